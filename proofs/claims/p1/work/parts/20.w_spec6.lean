theorem tw_1127 : Cond.methodLink RX10 (14 : Nat) yX10_come ∈ gT := gT_t (List.mem_of_getElem? (i := 1127) (by decide +kernel)) (by decide +kernel)
theorem tw_1129 : Cond.instanceMethod yX10_come ∈ gT := gT_t (List.mem_of_getElem? (i := 1129) (by decide +kernel)) (by decide +kernel)
theorem tw_1131 : Cond.code yX10_come cX10_come 3 none ∈ gT := gT_t (List.mem_of_getElem? (i := 1131) (by decide +kernel)) (by decide +kernel)
theorem tw_1174 : Cond.fieldLink RX10 (352 : Nat) "WonderParcelsModel" "placedMany" "I" ∈ gT := gT_t (List.mem_of_getElem? (i := 1174) (by decide +kernel)) (by decide +kernel)
theorem tw_1175 : Cond.fieldLink RX10 (355 : Nat) "WonderParcelsModel" "hasPlaced" "Z" ∈ gT := gT_t (List.mem_of_getElem? (i := 1175) (by decide +kernel)) (by decide +kernel)
theorem tw_1177 : Cond.fieldLink RX10 (365 : Nat) "WonderParcelsModel" "restedMany" "I" ∈ gT := gT_t (List.mem_of_getElem? (i := 1177) (by decide +kernel)) (by decide +kernel)
theorem tw_1179 : Cond.fieldLink RX10 (368 : Nat) "WonderParcelsModel" "texts" "I" ∈ gT := gT_t (List.mem_of_getElem? (i := 1179) (by decide +kernel)) (by decide +kernel)
theorem tw_1183 : Cond.fieldLink RX10 (406 : Nat) "WonderParcelsModel" "lineMany" "I" ∈ gT := gT_t (List.mem_of_getElem? (i := 1183) (by decide +kernel)) (by decide +kernel)
theorem tw_1184 : Cond.fieldLink RX10 (418 : Nat) "WonderParcelsModel" "hasWritten" "Z" ∈ gT := gT_t (List.mem_of_getElem? (i := 1184) (by decide +kernel)) (by decide +kernel)
theorem tw_1186 : Cond.fieldLink RX10 (425 : Nat) "WonderParcelsModel" "nodes" "I" ∈ gT := gT_t (List.mem_of_getElem? (i := 1186) (by decide +kernel)) (by decide +kernel)
theorem tw_1187 : Cond.fieldLink RX10 (441 : Nat) "WonderParcelsModel" "onesMany" "I" ∈ gT := gT_t (List.mem_of_getElem? (i := 1187) (by decide +kernel)) (by decide +kernel)
theorem tw_1188 : Cond.fieldLink RX10 (444 : Nat) "WonderParcelsModel" "within" "I" ∈ gT := gT_t (List.mem_of_getElem? (i := 1188) (by decide +kernel)) (by decide +kernel)
theorem tw_1294 : Cond.methodLink RX10 (234 : Nat) yX10_begin ∈ gT := gT_t (List.mem_of_getElem? (i := 1294) (by decide +kernel)) (by decide +kernel)
theorem tw_1296 : Cond.instanceMethod yX10_begin ∈ gT := gT_t (List.mem_of_getElem? (i := 1296) (by decide +kernel)) (by decide +kernel)
theorem tw_1297 : Cond.code yX10_begin cX10_begin 2 none ∈ gT := gT_t (List.mem_of_getElem? (i := 1297) (by decide +kernel)) (by decide +kernel)
theorem tw_1421 : Cond.methodLink RX10 (243 : Nat) yX10_startSo ∈ gT := gT_t (List.mem_of_getElem? (i := 1421) (by decide +kernel)) (by decide +kernel)
theorem tw_1423 : Cond.instanceMethod yX10_startSo ∈ gT := gT_t (List.mem_of_getElem? (i := 1423) (by decide +kernel)) (by decide +kernel)
theorem tw_1424 : Cond.code yX10_startSo cX10_startSo 2 none ∈ gT := gT_t (List.mem_of_getElem? (i := 1424) (by decide +kernel)) (by decide +kernel)
theorem tw_1433 : Cond.methodLink RX10 (256 : Nat) yX10_isParcel ∈ gT := gT_t (List.mem_of_getElem? (i := 1433) (by decide +kernel)) (by decide +kernel)
theorem tw_1435 : Cond.instanceMethod yX10_isParcel ∈ gT := gT_t (List.mem_of_getElem? (i := 1435) (by decide +kernel)) (by decide +kernel)
theorem tw_1436 : Cond.code yX10_isParcel cX10_isParcel 2 (some .boolean) ∈ gT := gT_t (List.mem_of_getElem? (i := 1436) (by decide +kernel)) (by decide +kernel)
theorem tw_1437 : Cond.methodLink RX10 (259 : Nat) yX10_isIdea ∈ gT := gT_t (List.mem_of_getElem? (i := 1437) (by decide +kernel)) (by decide +kernel)
theorem tw_1439 : Cond.instanceMethod yX10_isIdea ∈ gT := gT_t (List.mem_of_getElem? (i := 1439) (by decide +kernel)) (by decide +kernel)
theorem tw_1440 : Cond.code yX10_isIdea cX10_isIdea 2 (some .boolean) ∈ gT := gT_t (List.mem_of_getElem? (i := 1440) (by decide +kernel)) (by decide +kernel)
theorem tw_1449 : Cond.methodLink RX10 (262 : Nat) yX10_refuse ∈ gT := gT_t (List.mem_of_getElem? (i := 1449) (by decide +kernel)) (by decide +kernel)
theorem tw_1451 : Cond.instanceMethod yX10_refuse ∈ gT := gT_t (List.mem_of_getElem? (i := 1451) (by decide +kernel)) (by decide +kernel)
theorem tw_1452 : Cond.code yX10_refuse cX10_refuse 1 (some .int) ∈ gT := gT_t (List.mem_of_getElem? (i := 1452) (by decide +kernel)) (by decide +kernel)
theorem tw_1473 : Cond.methodLink RX10 (274 : Nat) yX10_isPerson ∈ gT := gT_t (List.mem_of_getElem? (i := 1473) (by decide +kernel)) (by decide +kernel)
theorem tw_1475 : Cond.instanceMethod yX10_isPerson ∈ gT := gT_t (List.mem_of_getElem? (i := 1475) (by decide +kernel)) (by decide +kernel)
theorem tw_1476 : Cond.code yX10_isPerson cX10_isPerson 2 (some .boolean) ∈ gT := gT_t (List.mem_of_getElem? (i := 1476) (by decide +kernel)) (by decide +kernel)
theorem tw_1489 : Cond.methodLink RX10 (277 : Nat) yX10_nothings ∈ gT := gT_t (List.mem_of_getElem? (i := 1489) (by decide +kernel)) (by decide +kernel)
theorem tw_1491 : Cond.instanceMethod yX10_nothings ∈ gT := gT_t (List.mem_of_getElem? (i := 1491) (by decide +kernel)) (by decide +kernel)
theorem tw_1492 : Cond.code yX10_nothings cX10_nothings 3 (some .int) ∈ gT := gT_t (List.mem_of_getElem? (i := 1492) (by decide +kernel)) (by decide +kernel)
theorem tw_1493 : Cond.methodLink RX10 (280 : Nat) yX10_sum ∈ gT := gT_t (List.mem_of_getElem? (i := 1493) (by decide +kernel)) (by decide +kernel)
theorem tw_1495 : Cond.instanceMethod yX10_sum ∈ gT := gT_t (List.mem_of_getElem? (i := 1495) (by decide +kernel)) (by decide +kernel)
theorem tw_1496 : Cond.code yX10_sum cX10_sum 5 (some .int) ∈ gT := gT_t (List.mem_of_getElem? (i := 1496) (by decide +kernel)) (by decide +kernel)
theorem tw_1509 : Cond.methodLink RX10 (301 : Nat) yX10_snap ∈ gT := gT_t (List.mem_of_getElem? (i := 1509) (by decide +kernel)) (by decide +kernel)
theorem tw_1511 : Cond.instanceMethod yX10_snap ∈ gT := gT_t (List.mem_of_getElem? (i := 1511) (by decide +kernel)) (by decide +kernel)
theorem tw_1512 : Cond.code yX10_snap cX10_snap 2 none ∈ gT := gT_t (List.mem_of_getElem? (i := 1512) (by decide +kernel)) (by decide +kernel)
theorem tw_1564 : Cond.methodLink RX10 (325 : Nat) yX10_passDays ∈ gT := gT_t (List.mem_of_getElem? (i := 1564) (by decide +kernel)) (by decide +kernel)
theorem tw_1566 : Cond.instanceMethod yX10_passDays ∈ gT := gT_t (List.mem_of_getElem? (i := 1566) (by decide +kernel)) (by decide +kernel)
theorem tw_1567 : Cond.code yX10_passDays cX10_passDays 4 (some .int) ∈ gT := gT_t (List.mem_of_getElem? (i := 1567) (by decide +kernel)) (by decide +kernel)
theorem tw_1587 : Cond.methodLink RX10 (328 : Nat) yX10_layAside ∈ gT := gT_t (List.mem_of_getElem? (i := 1587) (by decide +kernel)) (by decide +kernel)
theorem tw_1589 : Cond.instanceMethod yX10_layAside ∈ gT := gT_t (List.mem_of_getElem? (i := 1589) (by decide +kernel)) (by decide +kernel)
theorem tw_1590 : Cond.code yX10_layAside cX10_layAside 2 none ∈ gT := gT_t (List.mem_of_getElem? (i := 1590) (by decide +kernel)) (by decide +kernel)
theorem tw_1591 : Cond.methodLink RX10 (331 : Nat) yX10_takeBack ∈ gT := gT_t (List.mem_of_getElem? (i := 1591) (by decide +kernel)) (by decide +kernel)
theorem tw_1593 : Cond.instanceMethod yX10_takeBack ∈ gT := gT_t (List.mem_of_getElem? (i := 1593) (by decide +kernel)) (by decide +kernel)
theorem tw_1594 : Cond.code yX10_takeBack cX10_takeBack 2 none ∈ gT := gT_t (List.mem_of_getElem? (i := 1594) (by decide +kernel)) (by decide +kernel)
theorem tw_1638 : Cond.methodLink RX10 (349 : Nat) yX10_placeFrom ∈ gT := gT_t (List.mem_of_getElem? (i := 1638) (by decide +kernel)) (by decide +kernel)
theorem tw_1640 : Cond.instanceMethod yX10_placeFrom ∈ gT := gT_t (List.mem_of_getElem? (i := 1640) (by decide +kernel)) (by decide +kernel)
theorem tw_1641 : Cond.code yX10_placeFrom cX10_placeFrom 6 (some .boolean) ∈ gT := gT_t (List.mem_of_getElem? (i := 1641) (by decide +kernel)) (by decide +kernel)
theorem tw_1743 : Cond.methodLink RX10 (421 : Nat) yX10_stay ∈ gT := gT_t (List.mem_of_getElem? (i := 1743) (by decide +kernel)) (by decide +kernel)
theorem tw_1745 : Cond.instanceMethod yX10_stay ∈ gT := gT_t (List.mem_of_getElem? (i := 1745) (by decide +kernel)) (by decide +kernel)
theorem tw_1746 : Cond.code yX10_stay cX10_stay 4 none ∈ gT := gT_t (List.mem_of_getElem? (i := 1746) (by decide +kernel)) (by decide +kernel)
theorem tw_1755 : Cond.methodLink RX10 (459 : Nat) yX10_readOr ∈ gT := gT_t (List.mem_of_getElem? (i := 1755) (by decide +kernel)) (by decide +kernel)
theorem tw_1757 : Cond.instanceMethod yX10_readOr ∈ gT := gT_t (List.mem_of_getElem? (i := 1757) (by decide +kernel)) (by decide +kernel)
theorem tw_1758 : Cond.code yX10_readOr cX10_readOr 2 (some .boolean) ∈ gT := gT_t (List.mem_of_getElem? (i := 1758) (by decide +kernel)) (by decide +kernel)
theorem ts_37 : Cond.selects RX10 yX10_come yX10_come ∈ gT := gT_s (by decide +kernel) (by decide +kernel)
theorem ts_38 : Cond.selects RX10 yX10_begin yX10_begin ∈ gT := gT_s (by decide +kernel) (by decide +kernel)
theorem ts_64 : Cond.selects RX10 yX10_startSo yX10_startSo ∈ gT := gT_s (by decide +kernel) (by decide +kernel)
theorem ts_65 : Cond.selects RX10 yX10_isParcel yX10_isParcel ∈ gT := gT_s (by decide +kernel) (by decide +kernel)
theorem ts_66 : Cond.selects RX10 yX10_isIdea yX10_isIdea ∈ gT := gT_s (by decide +kernel) (by decide +kernel)
theorem ts_68 : Cond.selects RX10 yX10_refuse yX10_refuse ∈ gT := gT_s (by decide +kernel) (by decide +kernel)
theorem ts_73 : Cond.selects RX10 yX10_isPerson yX10_isPerson ∈ gT := gT_s (by decide +kernel) (by decide +kernel)
theorem ts_74 : Cond.selects RX10 yX10_nothings yX10_nothings ∈ gT := gT_s (by decide +kernel) (by decide +kernel)
theorem ts_75 : Cond.selects RX10 yX10_sum yX10_sum ∈ gT := gT_s (by decide +kernel) (by decide +kernel)
theorem ts_78 : Cond.selects RX10 yX10_snap yX10_snap ∈ gT := gT_s (by decide +kernel) (by decide +kernel)
theorem ts_84 : Cond.selects RX10 yX10_passDays yX10_passDays ∈ gT := gT_s (by decide +kernel) (by decide +kernel)
theorem ts_88 : Cond.selects RX10 yX10_layAside yX10_layAside ∈ gT := gT_s (by decide +kernel) (by decide +kernel)
theorem ts_89 : Cond.selects RX10 yX10_takeBack yX10_takeBack ∈ gT := gT_s (by decide +kernel) (by decide +kernel)
theorem ts_93 : Cond.selects RX10 yX10_placeFrom yX10_placeFrom ∈ gT := gT_s (by decide +kernel) (by decide +kernel)
theorem ts_110 : Cond.selects RX10 yX10_stay yX10_stay ∈ gT := gT_s (by decide +kernel) (by decide +kernel)
theorem ts_111 : Cond.selects RX10 yX10_readOr yX10_readOr ∈ gT := gT_s (by decide +kernel) (by decide +kernel)
theorem dX10_ask_0 : decode cX10_ask 0 = .ok (.aload_n 0, 1) := by decide +kernel
theorem dX10_ask_1 : decode cX10_ask 1 = .ok (.iconst 0, 1) := by decide +kernel
theorem dX10_ask_2 : decode cX10_ask 2 = .ok (.putfield 1, 3) := by decide +kernel
theorem dX10_ask_5 : decode cX10_ask 5 = .ok (.aload_n 0, 1) := by decide +kernel
theorem dX10_ask_6 : decode cX10_ask 6 = .ok (.getfield 145, 3) := by decide +kernel
theorem dX10_ask_9 : decode cX10_ask 9 = .ok (.ireturn, 1) := by decide +kernel
theorem dX10_book_0 : decode cX10_book 0 = .ok (.aload_n 0, 1) := by decide +kernel
theorem dX10_book_1 : decode cX10_book 1 = .ok (.iconst 0, 1) := by decide +kernel
theorem dX10_book_2 : decode cX10_book 2 = .ok (.putfield 1, 3) := by decide +kernel
theorem dX10_book_5 : decode cX10_book 5 = .ok (.iload_n 1, 1) := by decide +kernel
theorem dX10_book_6 : decode cX10_book 6 = .ok (.iconst 0, 1) := by decide +kernel
theorem dX10_book_7 : decode cX10_book 7 = .ok (.iconst 1, 1) := by decide +kernel
theorem dX10_book_8 : decode cX10_book 8 = .ok (.invokestatic 75, 3) := by decide +kernel
theorem dX10_book_11 : decode cX10_book 11 = .ok (.ifCond .ne 7, 3) := by decide +kernel
theorem dX10_book_14 : decode cX10_book 14 = .ok (.sipush (-1000), 3) := by decide +kernel
theorem dX10_book_17 : decode cX10_book 17 = .ok (.ireturn, 1) := by decide +kernel
theorem dX10_book_18 : decode cX10_book 18 = .ok (.aload_n 0, 1) := by decide +kernel
theorem dX10_book_19 : decode cX10_book 19 = .ok (.sipush 400, 3) := by decide +kernel
theorem dX10_book_22 : decode cX10_book 22 = .ok (.invokevirtual 234, 3) := by decide +kernel
theorem dX10_book_25 : decode cX10_book 25 = .ok (.aload_n 0, 1) := by decide +kernel
theorem dX10_book_26 : decode cX10_book 26 = .ok (.iconst 0, 1) := by decide +kernel
theorem dX10_book_27 : decode cX10_book 27 = .ok (.putfield 406, 3) := by decide +kernel
theorem dX10_book_30 : decode cX10_book 30 = .ok (.aload_n 0, 1) := by decide +kernel
theorem dX10_book_31 : decode cX10_book 31 = .ok (.getfield 30, 3) := by decide +kernel
theorem dX10_book_34 : decode cX10_book 34 = .ok (.ifCond .eq 31, 3) := by decide +kernel
theorem dX10_book_65 : decode cX10_book 65 = .ok (.aload_n 0, 1) := by decide +kernel
theorem dX10_book_66 : decode cX10_book 66 = .ok (.invokevirtual 328, 3) := by decide +kernel
theorem dX10_book_69 : decode cX10_book 69 = .ok (.iconst 0, 1) := by decide +kernel
theorem dX10_book_70 : decode cX10_book 70 = .ok (.istore_n 2, 1) := by decide +kernel
theorem dX10_book_71 : decode cX10_book 71 = .ok (.iconst 0, 1) := by decide +kernel
theorem dX10_book_72 : decode cX10_book 72 = .ok (.istore_n 3, 1) := by decide +kernel
theorem dX10_book_73 : decode cX10_book 73 = .ok (.iload_n 2, 1) := by decide +kernel
theorem dX10_book_74 : decode cX10_book 74 = .ok (.aload_n 0, 1) := by decide +kernel
theorem dX10_book_75 : decode cX10_book 75 = .ok (.getfield 406, 3) := by decide +kernel
theorem dX10_book_78 : decode cX10_book 78 = .ok (.if_icmp .ge 25, 3) := by decide +kernel
theorem dX10_book_103 : decode cX10_book 103 = .ok (.aload_n 0, 1) := by decide +kernel
theorem dX10_book_104 : decode cX10_book 104 = .ok (.getfield 163, 3) := by decide +kernel
theorem dX10_book_107 : decode cX10_book 107 = .ok (.iconst 0, 1) := by decide +kernel
theorem dX10_book_108 : decode cX10_book 108 = .ok (.iload_n 3, 1) := by decide +kernel
theorem dX10_book_109 : decode cX10_book 109 = .ok (.iastore, 1) := by decide +kernel
theorem dX10_book_110 : decode cX10_book 110 = .ok (.aload_n 0, 1) := by decide +kernel
theorem dX10_book_111 : decode cX10_book 111 = .ok (.getfield 163, 3) := by decide +kernel
theorem dX10_book_114 : decode cX10_book 114 = .ok (.iconst 1, 1) := by decide +kernel
theorem dX10_book_115 : decode cX10_book 115 = .ok (.iload_n 2, 1) := by decide +kernel
theorem dX10_book_116 : decode cX10_book 116 = .ok (.iastore, 1) := by decide +kernel
theorem dX10_book_117 : decode cX10_book 117 = .ok (.aload_n 0, 1) := by decide +kernel
theorem dX10_book_118 : decode cX10_book 118 = .ok (.getfield 163, 3) := by decide +kernel
theorem dX10_book_121 : decode cX10_book 121 = .ok (.iconst 2, 1) := by decide +kernel
theorem dX10_book_122 : decode cX10_book 122 = .ok (.aload_n 0, 1) := by decide +kernel
theorem dX10_book_123 : decode cX10_book 123 = .ok (.getfield 98, 3) := by decide +kernel
theorem dX10_book_126 : decode cX10_book 126 = .ok (.bipush 84, 2) := by decide +kernel
theorem dX10_book_128 : decode cX10_book 128 = .ok (.iaload, 1) := by decide +kernel
theorem dX10_book_129 : decode cX10_book 129 = .ok (.iastore, 1) := by decide +kernel
theorem dX10_book_130 : decode cX10_book 130 = .ok (.aload_n 0, 1) := by decide +kernel
theorem dX10_book_131 : decode cX10_book 131 = .ok (.getfield 163, 3) := by decide +kernel
theorem dX10_book_134 : decode cX10_book 134 = .ok (.iconst 3, 1) := by decide +kernel
theorem dX10_book_135 : decode cX10_book 135 = .ok (.aload_n 0, 1) := by decide +kernel
theorem dX10_book_136 : decode cX10_book 136 = .ok (.invokevirtual 277, 3) := by decide +kernel
theorem dX10_book_139 : decode cX10_book 139 = .ok (.iastore, 1) := by decide +kernel
theorem dX10_book_140 : decode cX10_book 140 = .ok (.aload_n 0, 1) := by decide +kernel
theorem dX10_book_141 : decode cX10_book 141 = .ok (.iconst 1, 1) := by decide +kernel
theorem dX10_book_142 : decode cX10_book 142 = .ok (.putfield 418, 3) := by decide +kernel
theorem dX10_book_145 : decode cX10_book 145 = .ok (.aload_n 0, 1) := by decide +kernel
theorem dX10_book_146 : decode cX10_book 146 = .ok (.iload_n 1, 1) := by decide +kernel
theorem dX10_book_147 : decode cX10_book 147 = .ok (.iconst 1, 1) := by decide +kernel
theorem dX10_book_148 : decode cX10_book 148 = .ok (.if_icmp .ne 11, 3) := by decide +kernel
theorem dX10_book_151 : decode cX10_book 151 = .ok (.iload_n 2, 1) := by decide +kernel
theorem dX10_book_152 : decode cX10_book 152 = .ok (.ifCond .le 7, 3) := by decide +kernel
theorem dX10_book_159 : decode cX10_book 159 = .ok (.iconst 0, 1) := by decide +kernel
theorem dX10_book_160 : decode cX10_book 160 = .ok (.invokevirtual 421, 3) := by decide +kernel
theorem dX10_book_163 : decode cX10_book 163 = .ok (.iload_n 3, 1) := by decide +kernel
theorem dX10_book_164 : decode cX10_book 164 = .ok (.ifCond .ne 7, 3) := by decide +kernel
theorem dX10_book_167 : decode cX10_book 167 = .ok (.iconst (-1), 1) := by decide +kernel
theorem dX10_book_168 : decode cX10_book 168 = .ok (.goto 4, 3) := by decide +kernel
theorem dX10_book_172 : decode cX10_book 172 = .ok (.ireturn, 1) := by decide +kernel
theorem dX10_byteAt_0 : decode cX10_byteAt 0 = .ok (.aload_n 0, 1) := by decide +kernel
theorem dX10_byteAt_1 : decode cX10_byteAt 1 = .ok (.iconst 0, 1) := by decide +kernel
theorem dX10_byteAt_2 : decode cX10_byteAt 2 = .ok (.putfield 1, 3) := by decide +kernel
theorem dX10_byteAt_5 : decode cX10_byteAt 5 = .ok (.iload_n 1, 1) := by decide +kernel
theorem dX10_byteAt_6 : decode cX10_byteAt 6 = .ok (.iconst 0, 1) := by decide +kernel
theorem dX10_byteAt_7 : decode cX10_byteAt 7 = .ok (.aload_n 0, 1) := by decide +kernel
theorem dX10_byteAt_8 : decode cX10_byteAt 8 = .ok (.getfield 368, 3) := by decide +kernel
theorem dX10_byteAt_11 : decode cX10_byteAt 11 = .ok (.iconst 1, 1) := by decide +kernel
theorem dX10_byteAt_12 : decode cX10_byteAt 12 = .ok (.isub, 1) := by decide +kernel
theorem dX10_byteAt_13 : decode cX10_byteAt 13 = .ok (.invokestatic 75, 3) := by decide +kernel
theorem dX10_byteAt_16 : decode cX10_byteAt 16 = .ok (.ifCond .eq 12, 3) := by decide +kernel
theorem dX10_byteAt_28 : decode cX10_byteAt 28 = .ok (.iconst (-1), 1) := by decide +kernel
theorem dX10_byteAt_29 : decode cX10_byteAt 29 = .ok (.ireturn, 1) := by decide +kernel
theorem dX10_carry_0 : decode cX10_carry 0 = .ok (.aload_n 0, 1) := by decide +kernel
theorem dX10_carry_1 : decode cX10_carry 1 = .ok (.iconst 0, 1) := by decide +kernel
theorem dX10_carry_2 : decode cX10_carry 2 = .ok (.putfield 1, 3) := by decide +kernel
theorem dX10_carry_5 : decode cX10_carry 5 = .ok (.aload_n 0, 1) := by decide +kernel
theorem dX10_carry_6 : decode cX10_carry 6 = .ok (.iload_n 1, 1) := by decide +kernel
theorem dX10_carry_7 : decode cX10_carry 7 = .ok (.invokevirtual 256, 3) := by decide +kernel
theorem dX10_carry_10 : decode cX10_carry 10 = .ok (.ifCond .eq 21, 3) := by decide +kernel
theorem dX10_carry_31 : decode cX10_carry 31 = .ok (.iconst (-1), 1) := by decide +kernel
theorem dX10_carry_32 : decode cX10_carry 32 = .ok (.ireturn, 1) := by decide +kernel
theorem dX10_count_0 : decode cX10_count 0 = .ok (.aload_n 0, 1) := by decide +kernel
theorem dX10_count_1 : decode cX10_count 1 = .ok (.iconst 0, 1) := by decide +kernel
theorem dX10_count_2 : decode cX10_count 2 = .ok (.putfield 1, 3) := by decide +kernel
theorem dX10_count_5 : decode cX10_count 5 = .ok (.iload_n 1, 1) := by decide +kernel
theorem dX10_count_6 : decode cX10_count 6 = .ok (.tableswitch 89 0 6 #[42, 49, 56, 63, 70, 77, 84], 42) := by decide +kernel
theorem dX10_count_48 : decode cX10_count 48 = .ok (.aload_n 0, 1) := by decide +kernel
theorem dX10_count_49 : decode cX10_count 49 = .ok (.getfield 98, 3) := by decide +kernel
theorem dX10_count_52 : decode cX10_count 52 = .ok (.iconst 0, 1) := by decide +kernel
theorem dX10_count_53 : decode cX10_count 53 = .ok (.iaload, 1) := by decide +kernel
theorem dX10_count_54 : decode cX10_count 54 = .ok (.ireturn, 1) := by decide +kernel
theorem dX10_count_55 : decode cX10_count 55 = .ok (.aload_n 0, 1) := by decide +kernel
theorem dX10_count_56 : decode cX10_count 56 = .ok (.getfield 98, 3) := by decide +kernel
theorem dX10_count_59 : decode cX10_count 59 = .ok (.iconst 1, 1) := by decide +kernel
theorem dX10_count_60 : decode cX10_count 60 = .ok (.iaload, 1) := by decide +kernel
theorem dX10_count_61 : decode cX10_count 61 = .ok (.ireturn, 1) := by decide +kernel
theorem dX10_count_62 : decode cX10_count 62 = .ok (.aload_n 0, 1) := by decide +kernel
theorem dX10_count_63 : decode cX10_count 63 = .ok (.getfield 98, 3) := by decide +kernel
theorem dX10_count_66 : decode cX10_count 66 = .ok (.iconst 2, 1) := by decide +kernel
theorem dX10_count_67 : decode cX10_count 67 = .ok (.iaload, 1) := by decide +kernel
theorem dX10_count_68 : decode cX10_count 68 = .ok (.ireturn, 1) := by decide +kernel
theorem dX10_count_69 : decode cX10_count 69 = .ok (.aload_n 0, 1) := by decide +kernel
theorem dX10_count_70 : decode cX10_count 70 = .ok (.getfield 98, 3) := by decide +kernel
theorem dX10_count_73 : decode cX10_count 73 = .ok (.iconst 3, 1) := by decide +kernel
theorem dX10_count_74 : decode cX10_count 74 = .ok (.iaload, 1) := by decide +kernel
theorem dX10_count_75 : decode cX10_count 75 = .ok (.ireturn, 1) := by decide +kernel
theorem dX10_count_76 : decode cX10_count 76 = .ok (.aload_n 0, 1) := by decide +kernel
theorem dX10_count_77 : decode cX10_count 77 = .ok (.getfield 98, 3) := by decide +kernel
theorem dX10_count_80 : decode cX10_count 80 = .ok (.iconst 4, 1) := by decide +kernel
theorem dX10_count_81 : decode cX10_count 81 = .ok (.iaload, 1) := by decide +kernel
theorem dX10_count_82 : decode cX10_count 82 = .ok (.ireturn, 1) := by decide +kernel
theorem dX10_count_83 : decode cX10_count 83 = .ok (.aload_n 0, 1) := by decide +kernel
theorem dX10_count_84 : decode cX10_count 84 = .ok (.getfield 98, 3) := by decide +kernel
theorem dX10_count_87 : decode cX10_count 87 = .ok (.iconst 5, 1) := by decide +kernel
theorem dX10_count_88 : decode cX10_count 88 = .ok (.iaload, 1) := by decide +kernel
theorem dX10_count_89 : decode cX10_count 89 = .ok (.ireturn, 1) := by decide +kernel
theorem dX10_count_90 : decode cX10_count 90 = .ok (.aload_n 0, 1) := by decide +kernel
theorem dX10_count_91 : decode cX10_count 91 = .ok (.getfield 11, 3) := by decide +kernel
theorem dX10_count_94 : decode cX10_count 94 = .ok (.ireturn, 1) := by decide +kernel
theorem dX10_count_95 : decode cX10_count 95 = .ok (.iconst (-1), 1) := by decide +kernel
theorem dX10_count_96 : decode cX10_count 96 = .ok (.ireturn, 1) := by decide +kernel
theorem dX10_days_0 : decode cX10_days 0 = .ok (.aload_n 0, 1) := by decide +kernel
theorem dX10_days_1 : decode cX10_days 1 = .ok (.iconst 0, 1) := by decide +kernel
theorem dX10_days_2 : decode cX10_days 2 = .ok (.putfield 1, 3) := by decide +kernel
theorem dX10_days_5 : decode cX10_days 5 = .ok (.iload_n 1, 1) := by decide +kernel
theorem dX10_days_6 : decode cX10_days 6 = .ok (.iconst 1, 1) := by decide +kernel
theorem dX10_days_7 : decode cX10_days 7 = .ok (.bipush 60, 2) := by decide +kernel
theorem dX10_days_9 : decode cX10_days 9 = .ok (.invokestatic 75, 3) := by decide +kernel
theorem dX10_days_12 : decode cX10_days 12 = .ok (.ifCond .ne 5, 3) := by decide +kernel
theorem dX10_days_15 : decode cX10_days 15 = .ok (.iconst (-1), 1) := by decide +kernel
theorem dX10_days_16 : decode cX10_days 16 = .ok (.ireturn, 1) := by decide +kernel
theorem dX10_days_17 : decode cX10_days 17 = .ok (.aload_n 0, 1) := by decide +kernel
theorem dX10_days_18 : decode cX10_days 18 = .ok (.getfield 98, 3) := by decide +kernel
theorem dX10_days_21 : decode cX10_days 21 = .ok (.bipush 84, 2) := by decide +kernel
theorem dX10_days_23 : decode cX10_days 23 = .ok (.iaload, 1) := by decide +kernel
theorem dX10_days_24 : decode cX10_days 24 = .ok (.sipush 400, 3) := by decide +kernel
theorem dX10_days_27 : decode cX10_days 27 = .ok (.if_icmp .ne 5, 3) := by decide +kernel
theorem dX10_days_32 : decode cX10_days 32 = .ok (.aload_n 0, 1) := by decide +kernel
theorem dX10_days_33 : decode cX10_days 33 = .ok (.invokevirtual 301, 3) := by decide +kernel
theorem dX10_days_36 : decode cX10_days 36 = .ok (.aload_n 0, 1) := by decide +kernel
theorem dX10_days_37 : decode cX10_days 37 = .ok (.iload_n 1, 1) := by decide +kernel
theorem dX10_days_38 : decode cX10_days 38 = .ok (.invokevirtual 325, 3) := by decide +kernel
theorem dX10_days_41 : decode cX10_days 41 = .ok (.ireturn, 1) := by decide +kernel
theorem dX10_drawn_0 : decode cX10_drawn 0 = .ok (.aload_n 0, 1) := by decide +kernel
theorem dX10_drawn_1 : decode cX10_drawn 1 = .ok (.iconst 0, 1) := by decide +kernel
theorem dX10_drawn_2 : decode cX10_drawn 2 = .ok (.putfield 1, 3) := by decide +kernel
theorem dX10_drawn_5 : decode cX10_drawn 5 = .ok (.iload_n 1, 1) := by decide +kernel
theorem dX10_drawn_6 : decode cX10_drawn 6 = .ok (.iconst 1, 1) := by decide +kernel
theorem dX10_drawn_7 : decode cX10_drawn 7 = .ok (.bipush 60, 2) := by decide +kernel
theorem dX10_drawn_9 : decode cX10_drawn 9 = .ok (.invokestatic 75, 3) := by decide +kernel
theorem dX10_drawn_12 : decode cX10_drawn 12 = .ok (.ifCond .eq 12, 3) := by decide +kernel
theorem dX10_drawn_15 : decode cX10_drawn 15 = .ok (.aload_n 0, 1) := by decide +kernel
theorem dX10_drawn_16 : decode cX10_drawn 16 = .ok (.getfield 98, 3) := by decide +kernel
theorem dX10_drawn_19 : decode cX10_drawn 19 = .ok (.iconst 3, 1) := by decide +kernel
theorem dX10_drawn_20 : decode cX10_drawn 20 = .ok (.iaload, 1) := by decide +kernel
theorem dX10_drawn_21 : decode cX10_drawn 21 = .ok (.ifCond .ne 5, 3) := by decide +kernel
theorem dX10_drawn_24 : decode cX10_drawn 24 = .ok (.iconst (-1), 1) := by decide +kernel
theorem dX10_drawn_25 : decode cX10_drawn 25 = .ok (.ireturn, 1) := by decide +kernel
theorem dX10_end_0 : decode cX10_end 0 = .ok (.aload_n 0, 1) := by decide +kernel
theorem dX10_end_1 : decode cX10_end 1 = .ok (.iconst 0, 1) := by decide +kernel
theorem dX10_end_2 : decode cX10_end 2 = .ok (.putfield 1, 3) := by decide +kernel
theorem dX10_end_5 : decode cX10_end 5 = .ok (.iload_n 1, 1) := by decide +kernel
theorem dX10_end_6 : decode cX10_end 6 = .ok (.ifCond .lt 11, 3) := by decide +kernel
theorem dX10_end_9 : decode cX10_end 9 = .ok (.iload_n 1, 1) := by decide +kernel
theorem dX10_end_10 : decode cX10_end 10 = .ok (.aload_n 0, 1) := by decide +kernel
theorem dX10_end_11 : decode cX10_end 11 = .ok (.getfield 11, 3) := by decide +kernel
theorem dX10_end_14 : decode cX10_end 14 = .ok (.if_icmp .le 5, 3) := by decide +kernel
theorem dX10_end_17 : decode cX10_end 17 = .ok (.iconst 0, 1) := by decide +kernel
theorem dX10_end_18 : decode cX10_end 18 = .ok (.ireturn, 1) := by decide +kernel
theorem dX10_end_19 : decode cX10_end 19 = .ok (.aload_n 0, 1) := by decide +kernel
theorem dX10_end_20 : decode cX10_end 20 = .ok (.iload_n 1, 1) := by decide +kernel
theorem dX10_end_21 : decode cX10_end 21 = .ok (.putfield 11, 3) := by decide +kernel
theorem dX10_end_24 : decode cX10_end 24 = .ok (.iconst 1, 1) := by decide +kernel
theorem dX10_end_25 : decode cX10_end 25 = .ok (.ireturn, 1) := by decide +kernel
theorem dX10_fault_0 : decode cX10_fault 0 = .ok (.aload_n 0, 1) := by decide +kernel
theorem dX10_fault_1 : decode cX10_fault 1 = .ok (.iconst 0, 1) := by decide +kernel
theorem dX10_fault_2 : decode cX10_fault 2 = .ok (.putfield 1, 3) := by decide +kernel
theorem dX10_fault_5 : decode cX10_fault 5 = .ok (.aload_n 0, 1) := by decide +kernel
theorem dX10_fault_6 : decode cX10_fault 6 = .ok (.getfield 66, 3) := by decide +kernel
theorem dX10_fault_9 : decode cX10_fault 9 = .ok (.ireturn, 1) := by decide +kernel
theorem dX10_feed_0 : decode cX10_feed 0 = .ok (.aload_n 0, 1) := by decide +kernel
theorem dX10_feed_1 : decode cX10_feed 1 = .ok (.iconst 0, 1) := by decide +kernel
theorem dX10_feed_2 : decode cX10_feed 2 = .ok (.putfield 1, 3) := by decide +kernel
theorem dX10_feed_5 : decode cX10_feed 5 = .ok (.aload_n 0, 1) := by decide +kernel
theorem dX10_feed_6 : decode cX10_feed 6 = .ok (.getfield 11, 3) := by decide +kernel
theorem dX10_feed_9 : decode cX10_feed 9 = .ok (.bipush 20, 2) := by decide +kernel
theorem dX10_feed_11 : decode cX10_feed 11 = .ok (.iadd, 1) := by decide +kernel
theorem dX10_feed_12 : decode cX10_feed 12 = .ok (.sipush 940, 3) := by decide +kernel
theorem dX10_feed_15 : decode cX10_feed 15 = .ok (.if_icmp .le 5, 3) := by decide +kernel
theorem dX10_feed_20 : decode cX10_feed 20 = .ok (.aload_n 0, 1) := by decide +kernel
theorem dX10_feed_21 : decode cX10_feed 21 = .ok (.iload_n 1, 1) := by decide +kernel
theorem dX10_feed_22 : decode cX10_feed 22 = .ok (.invokevirtual 14, 3) := by decide +kernel
theorem dX10_feed_25 : decode cX10_feed 25 = .ok (.aload_n 0, 1) := by decide +kernel
theorem dX10_feed_26 : decode cX10_feed 26 = .ok (.iload_n 2, 1) := by decide +kernel
theorem dX10_feed_27 : decode cX10_feed 27 = .ok (.invokevirtual 14, 3) := by decide +kernel
theorem dX10_feed_30 : decode cX10_feed 30 = .ok (.aload_n 0, 1) := by decide +kernel
theorem dX10_feed_31 : decode cX10_feed 31 = .ok (.iload_n 3, 1) := by decide +kernel
theorem dX10_feed_32 : decode cX10_feed 32 = .ok (.invokevirtual 14, 3) := by decide +kernel
theorem dX10_feed_35 : decode cX10_feed 35 = .ok (.aload_n 0, 1) := by decide +kernel
theorem dX10_feed_36 : decode cX10_feed 36 = .ok (.iload 4, 2) := by decide +kernel
theorem dX10_feed_38 : decode cX10_feed 38 = .ok (.invokevirtual 14, 3) := by decide +kernel
theorem dX10_feed_41 : decode cX10_feed 41 = .ok (.aload_n 0, 1) := by decide +kernel
theorem dX10_feed_42 : decode cX10_feed 42 = .ok (.iload 5, 2) := by decide +kernel
theorem dX10_feed_44 : decode cX10_feed 44 = .ok (.invokevirtual 14, 3) := by decide +kernel
theorem dX10_feed_47 : decode cX10_feed 47 = .ok (.aload_n 0, 1) := by decide +kernel
theorem dX10_feed_48 : decode cX10_feed 48 = .ok (.getfield 11, 3) := by decide +kernel
theorem dX10_feed_51 : decode cX10_feed 51 = .ok (.ireturn, 1) := by decide +kernel
theorem dX10_greatest_0 : decode cX10_greatest 0 = .ok (.aload_n 0, 1) := by decide +kernel
theorem dX10_greatest_1 : decode cX10_greatest 1 = .ok (.iconst 0, 1) := by decide +kernel
theorem dX10_greatest_2 : decode cX10_greatest 2 = .ok (.putfield 1, 3) := by decide +kernel
theorem dX10_greatest_5 : decode cX10_greatest 5 = .ok (.iconst (-1), 1) := by decide +kernel
theorem dX10_greatest_6 : decode cX10_greatest 6 = .ok (.istore_n 1, 1) := by decide +kernel
theorem dX10_greatest_7 : decode cX10_greatest 7 = .ok (.iconst 0, 1) := by decide +kernel
theorem dX10_greatest_8 : decode cX10_greatest 8 = .ok (.istore_n 2, 1) := by decide +kernel
theorem dX10_greatest_9 : decode cX10_greatest 9 = .ok (.iload_n 2, 1) := by decide +kernel
theorem dX10_greatest_10 : decode cX10_greatest 10 = .ok (.aload_n 0, 1) := by decide +kernel
theorem dX10_greatest_11 : decode cX10_greatest 11 = .ok (.getfield 98, 3) := by decide +kernel
theorem dX10_greatest_14 : decode cX10_greatest 14 = .ok (.iconst 2, 1) := by decide +kernel
theorem dX10_greatest_15 : decode cX10_greatest 15 = .ok (.iaload, 1) := by decide +kernel
theorem dX10_greatest_16 : decode cX10_greatest 16 = .ok (.if_icmp .ge 37, 3) := by decide +kernel
theorem dX10_greatest_53 : decode cX10_greatest 53 = .ok (.iload_n 1, 1) := by decide +kernel
theorem dX10_greatest_54 : decode cX10_greatest 54 = .ok (.ireturn, 1) := by decide +kernel
theorem dX10_guess_0 : decode cX10_guess 0 = .ok (.aload_n 0, 1) := by decide +kernel
theorem dX10_guess_1 : decode cX10_guess 1 = .ok (.iconst 0, 1) := by decide +kernel
theorem dX10_guess_2 : decode cX10_guess 2 = .ok (.putfield 1, 3) := by decide +kernel
theorem dX10_guess_5 : decode cX10_guess 5 = .ok (.aload_n 0, 1) := by decide +kernel
theorem dX10_guess_6 : decode cX10_guess 6 = .ok (.iload_n 1, 1) := by decide +kernel
theorem dX10_guess_7 : decode cX10_guess 7 = .ok (.invokevirtual 274, 3) := by decide +kernel
theorem dX10_guess_10 : decode cX10_guess 10 = .ok (.ifCond .eq 11, 3) := by decide +kernel
theorem dX10_guess_21 : decode cX10_guess 21 = .ok (.iconst (-1), 1) := by decide +kernel
theorem dX10_guess_22 : decode cX10_guess 22 = .ok (.ireturn, 1) := by decide +kernel
theorem dX10_image_0 : decode cX10_image 0 = .ok (.aload_n 0, 1) := by decide +kernel
theorem dX10_image_1 : decode cX10_image 1 = .ok (.iconst 0, 1) := by decide +kernel
theorem dX10_image_2 : decode cX10_image 2 = .ok (.putfield 1, 3) := by decide +kernel
theorem dX10_image_5 : decode cX10_image 5 = .ok (.iload_n 1, 1) := by decide +kernel
theorem dX10_image_6 : decode cX10_image 6 = .ok (.iconst 0, 1) := by decide +kernel
theorem dX10_image_7 : decode cX10_image 7 = .ok (.iconst 1, 1) := by decide +kernel
theorem dX10_image_8 : decode cX10_image 8 = .ok (.invokestatic 75, 3) := by decide +kernel
theorem dX10_image_11 : decode cX10_image 11 = .ok (.ifCond .ne 5, 3) := by decide +kernel
theorem dX10_image_14 : decode cX10_image 14 = .ok (.iconst 0, 1) := by decide +kernel
theorem dX10_image_15 : decode cX10_image 15 = .ok (.ireturn, 1) := by decide +kernel
theorem dX10_image_16 : decode cX10_image 16 = .ok (.iconst 0, 1) := by decide +kernel
theorem dX10_image_17 : decode cX10_image 17 = .ok (.istore_n 2, 1) := by decide +kernel
theorem dX10_image_18 : decode cX10_image 18 = .ok (.iload_n 2, 1) := by decide +kernel
theorem dX10_image_19 : decode cX10_image 19 = .ok (.sipush 414, 3) := by decide +kernel
theorem dX10_image_22 : decode cX10_image 22 = .ok (.if_icmp .ge 27, 3) := by decide +kernel
theorem dX10_image_25 : decode cX10_image 25 = .ok (.aload_n 0, 1) := by decide +kernel
theorem dX10_image_26 : decode cX10_image 26 = .ok (.getfield 104, 3) := by decide +kernel
theorem dX10_image_29 : decode cX10_image 29 = .ok (.sipush 414, 3) := by decide +kernel
theorem dX10_image_32 : decode cX10_image 32 = .ok (.iload_n 1, 1) := by decide +kernel
theorem dX10_image_33 : decode cX10_image 33 = .ok (.imul, 1) := by decide +kernel
theorem dX10_image_34 : decode cX10_image 34 = .ok (.iload_n 2, 1) := by decide +kernel
theorem dX10_image_35 : decode cX10_image 35 = .ok (.iadd, 1) := by decide +kernel
theorem dX10_image_36 : decode cX10_image 36 = .ok (.aload_n 0, 1) := by decide +kernel
theorem dX10_image_37 : decode cX10_image 37 = .ok (.getfield 98, 3) := by decide +kernel
theorem dX10_image_40 : decode cX10_image 40 = .ok (.iload_n 2, 1) := by decide +kernel
theorem dX10_image_41 : decode cX10_image 41 = .ok (.iaload, 1) := by decide +kernel
theorem dX10_image_42 : decode cX10_image 42 = .ok (.iastore, 1) := by decide +kernel
theorem dX10_image_43 : decode cX10_image 43 = .ok (.iinc 2 1, 3) := by decide +kernel
theorem dX10_image_46 : decode cX10_image 46 = .ok (.goto (-28), 3) := by decide +kernel
theorem dX10_image_49 : decode cX10_image 49 = .ok (.iconst 0, 1) := by decide +kernel
theorem dX10_image_50 : decode cX10_image 50 = .ok (.istore_n 2, 1) := by decide +kernel
theorem dX10_image_51 : decode cX10_image 51 = .ok (.iload_n 2, 1) := by decide +kernel
theorem dX10_image_52 : decode cX10_image 52 = .ok (.bipush 24, 2) := by decide +kernel
theorem dX10_image_54 : decode cX10_image 54 = .ok (.if_icmp .ge 26, 3) := by decide +kernel
theorem dX10_image_57 : decode cX10_image 57 = .ok (.aload_n 0, 1) := by decide +kernel
theorem dX10_image_58 : decode cX10_image 58 = .ok (.getfield 123, 3) := by decide +kernel
theorem dX10_image_61 : decode cX10_image 61 = .ok (.bipush 24, 2) := by decide +kernel
theorem dX10_image_63 : decode cX10_image 63 = .ok (.iload_n 1, 1) := by decide +kernel
theorem dX10_image_64 : decode cX10_image 64 = .ok (.imul, 1) := by decide +kernel
theorem dX10_image_65 : decode cX10_image 65 = .ok (.iload_n 2, 1) := by decide +kernel
theorem dX10_image_66 : decode cX10_image 66 = .ok (.iadd, 1) := by decide +kernel
theorem dX10_image_67 : decode cX10_image 67 = .ok (.aload_n 0, 1) := by decide +kernel
theorem dX10_image_68 : decode cX10_image 68 = .ok (.getfield 116, 3) := by decide +kernel
theorem dX10_image_71 : decode cX10_image 71 = .ok (.iload_n 2, 1) := by decide +kernel
theorem dX10_image_72 : decode cX10_image 72 = .ok (.laload, 1) := by decide +kernel
theorem dX10_image_73 : decode cX10_image 73 = .ok (.lastore, 1) := by decide +kernel
theorem dX10_image_74 : decode cX10_image 74 = .ok (.iinc 2 1, 3) := by decide +kernel
theorem dX10_image_77 : decode cX10_image 77 = .ok (.goto (-26), 3) := by decide +kernel
theorem dX10_image_80 : decode cX10_image 80 = .ok (.aload_n 0, 1) := by decide +kernel
theorem dX10_image_81 : decode cX10_image 81 = .ok (.getfield 126, 3) := by decide +kernel
theorem dX10_image_84 : decode cX10_image 84 = .ok (.iload_n 1, 1) := by decide +kernel
theorem dX10_image_85 : decode cX10_image 85 = .ok (.iconst 1, 1) := by decide +kernel
theorem dX10_image_86 : decode cX10_image 86 = .ok (.bastore, 1) := by decide +kernel
theorem dX10_image_87 : decode cX10_image 87 = .ok (.iconst 1, 1) := by decide +kernel
theorem dX10_image_88 : decode cX10_image 88 = .ok (.ireturn, 1) := by decide +kernel
theorem dX10_let_0 : decode cX10_let 0 = .ok (.aload_n 0, 1) := by decide +kernel
theorem dX10_let_1 : decode cX10_let 1 = .ok (.iconst 0, 1) := by decide +kernel
theorem dX10_let_2 : decode cX10_let 2 = .ok (.putfield 1, 3) := by decide +kernel
theorem dX10_let_5 : decode cX10_let 5 = .ok (.aload_n 0, 1) := by decide +kernel
theorem dX10_let_6 : decode cX10_let 6 = .ok (.iload_n 1, 1) := by decide +kernel
theorem dX10_let_7 : decode cX10_let 7 = .ok (.invokevirtual 256, 3) := by decide +kernel
theorem dX10_let_10 : decode cX10_let 10 = .ok (.ifCond .ne 5, 3) := by decide +kernel
theorem dX10_let_13 : decode cX10_let 13 = .ok (.iconst (-1), 1) := by decide +kernel
theorem dX10_let_14 : decode cX10_let 14 = .ok (.ireturn, 1) := by decide +kernel
theorem dX10_much_0 : decode cX10_much 0 = .ok (.aload_n 0, 1) := by decide +kernel
theorem dX10_much_1 : decode cX10_much 1 = .ok (.iconst 0, 1) := by decide +kernel
theorem dX10_much_2 : decode cX10_much 2 = .ok (.putfield 1, 3) := by decide +kernel
theorem dX10_much_5 : decode cX10_much 5 = .ok (.aload_n 0, 1) := by decide +kernel
theorem dX10_much_6 : decode cX10_much 6 = .ok (.iload_n 1, 1) := by decide +kernel
theorem dX10_much_7 : decode cX10_much 7 = .ok (.invokevirtual 256, 3) := by decide +kernel
theorem dX10_much_10 : decode cX10_much 10 = .ok (.ifCond .eq 20, 3) := by decide +kernel
theorem dX10_much_30 : decode cX10_much 30 = .ok (.iconst (-1), 1) := by decide +kernel
theorem dX10_much_31 : decode cX10_much 31 = .ok (.ireturn, 1) := by decide +kernel
theorem dX10_need_0 : decode cX10_need 0 = .ok (.aload_n 0, 1) := by decide +kernel
theorem dX10_need_1 : decode cX10_need 1 = .ok (.iconst 0, 1) := by decide +kernel
theorem dX10_need_2 : decode cX10_need 2 = .ok (.putfield 1, 3) := by decide +kernel
theorem dX10_need_5 : decode cX10_need 5 = .ok (.aload_n 0, 1) := by decide +kernel
theorem dX10_need_6 : decode cX10_need 6 = .ok (.iload_n 1, 1) := by decide +kernel
theorem dX10_need_7 : decode cX10_need 7 = .ok (.invokevirtual 259, 3) := by decide +kernel
theorem dX10_need_10 : decode cX10_need 10 = .ok (.ifCond .eq 15, 3) := by decide +kernel
theorem dX10_need_25 : decode cX10_need 25 = .ok (.iconst (-1), 1) := by decide +kernel
theorem dX10_need_26 : decode cX10_need 26 = .ok (.ireturn, 1) := by decide +kernel
theorem dX10_now_0 : decode cX10_now 0 = .ok (.aload_n 0, 1) := by decide +kernel
theorem dX10_now_1 : decode cX10_now 1 = .ok (.iconst 0, 1) := by decide +kernel
theorem dX10_now_2 : decode cX10_now 2 = .ok (.putfield 1, 3) := by decide +kernel
theorem dX10_now_5 : decode cX10_now 5 = .ok (.iconst 0, 1) := by decide +kernel
theorem dX10_now_6 : decode cX10_now 6 = .ok (.istore_n 2, 1) := by decide +kernel
theorem dX10_now_7 : decode cX10_now 7 = .ok (.iload_n 1, 1) := by decide +kernel
theorem dX10_now_8 : decode cX10_now 8 = .ok (.tableswitch 127 0 6 #[44, 52, 60, 65, 99, 109, 118], 44) := by decide +kernel
theorem dX10_now_52 : decode cX10_now 52 = .ok (.aload_n 0, 1) := by decide +kernel
theorem dX10_now_53 : decode cX10_now 53 = .ok (.getfield 98, 3) := by decide +kernel
theorem dX10_now_56 : decode cX10_now 56 = .ok (.bipush 84, 2) := by decide +kernel
theorem dX10_now_58 : decode cX10_now 58 = .ok (.iaload, 1) := by decide +kernel
theorem dX10_now_59 : decode cX10_now 59 = .ok (.ireturn, 1) := by decide +kernel
theorem dX10_now_60 : decode cX10_now 60 = .ok (.aload_n 0, 1) := by decide +kernel
theorem dX10_now_61 : decode cX10_now 61 = .ok (.getfield 98, 3) := by decide +kernel
theorem dX10_now_64 : decode cX10_now 64 = .ok (.bipush 85, 2) := by decide +kernel
theorem dX10_now_66 : decode cX10_now 66 = .ok (.iaload, 1) := by decide +kernel
theorem dX10_now_67 : decode cX10_now 67 = .ok (.ireturn, 1) := by decide +kernel
theorem dX10_now_68 : decode cX10_now 68 = .ok (.aload_n 0, 1) := by decide +kernel
theorem dX10_now_69 : decode cX10_now 69 = .ok (.invokevirtual 277, 3) := by decide +kernel
theorem dX10_now_72 : decode cX10_now 72 = .ok (.ireturn, 1) := by decide +kernel
theorem dX10_now_73 : decode cX10_now 73 = .ok (.iconst 0, 1) := by decide +kernel
theorem dX10_now_74 : decode cX10_now 74 = .ok (.istore_n 3, 1) := by decide +kernel
theorem dX10_now_75 : decode cX10_now 75 = .ok (.iload_n 3, 1) := by decide +kernel
theorem dX10_now_76 : decode cX10_now 76 = .ok (.aload_n 0, 1) := by decide +kernel
theorem dX10_now_77 : decode cX10_now 77 = .ok (.getfield 98, 3) := by decide +kernel
theorem dX10_now_80 : decode cX10_now 80 = .ok (.iconst 2, 1) := by decide +kernel
theorem dX10_now_81 : decode cX10_now 81 = .ok (.iaload, 1) := by decide +kernel
theorem dX10_now_82 : decode cX10_now 82 = .ok (.if_icmp .ge 23, 3) := by decide +kernel
theorem dX10_now_105 : decode cX10_now 105 = .ok (.iload_n 2, 1) := by decide +kernel
theorem dX10_now_106 : decode cX10_now 106 = .ok (.ireturn, 1) := by decide +kernel
theorem dX10_now_107 : decode cX10_now 107 = .ok (.aload_n 0, 1) := by decide +kernel
theorem dX10_now_108 : decode cX10_now 108 = .ok (.sipush 136, 3) := by decide +kernel
theorem dX10_now_111 : decode cX10_now 111 = .ok (.bipush 36, 2) := by decide +kernel
theorem dX10_now_113 : decode cX10_now 113 = .ok (.invokevirtual 280, 3) := by decide +kernel
theorem dX10_now_116 : decode cX10_now 116 = .ok (.ireturn, 1) := by decide +kernel
theorem dX10_now_117 : decode cX10_now 117 = .ok (.aload_n 0, 1) := by decide +kernel
theorem dX10_now_118 : decode cX10_now 118 = .ok (.bipush 92, 2) := by decide +kernel
theorem dX10_now_120 : decode cX10_now 120 = .ok (.bipush 6, 2) := by decide +kernel
theorem dX10_now_122 : decode cX10_now 122 = .ok (.invokevirtual 280, 3) := by decide +kernel
theorem dX10_now_125 : decode cX10_now 125 = .ok (.ireturn, 1) := by decide +kernel
theorem dX10_now_126 : decode cX10_now 126 = .ok (.aload_n 0, 1) := by decide +kernel
theorem dX10_now_127 : decode cX10_now 127 = .ok (.bipush 98, 2) := by decide +kernel
theorem dX10_now_129 : decode cX10_now 129 = .ok (.bipush 6, 2) := by decide +kernel
theorem dX10_now_131 : decode cX10_now 131 = .ok (.invokevirtual 280, 3) := by decide +kernel
theorem dX10_now_134 : decode cX10_now 134 = .ok (.ireturn, 1) := by decide +kernel
theorem dX10_now_135 : decode cX10_now 135 = .ok (.iconst (-1), 1) := by decide +kernel
theorem dX10_now_136 : decode cX10_now 136 = .ok (.ireturn, 1) := by decide +kernel
theorem dX10_odds_0 : decode cX10_odds 0 = .ok (.aload_n 0, 1) := by decide +kernel
theorem dX10_odds_1 : decode cX10_odds 1 = .ok (.iconst 0, 1) := by decide +kernel
theorem dX10_odds_2 : decode cX10_odds 2 = .ok (.putfield 1, 3) := by decide +kernel
theorem dX10_odds_5 : decode cX10_odds 5 = .ok (.aload_n 0, 1) := by decide +kernel
theorem dX10_odds_6 : decode cX10_odds 6 = .ok (.iload_n 1, 1) := by decide +kernel
theorem dX10_odds_7 : decode cX10_odds 7 = .ok (.invokevirtual 256, 3) := by decide +kernel
theorem dX10_odds_10 : decode cX10_odds 10 = .ok (.ifCond .eq 21, 3) := by decide +kernel
theorem dX10_odds_31 : decode cX10_odds 31 = .ok (.iconst (-1), 1) := by decide +kernel
theorem dX10_odds_32 : decode cX10_odds 32 = .ok (.ireturn, 1) := by decide +kernel
theorem dX10_open_0 : decode cX10_open 0 = .ok (.aload_n 0, 1) := by decide +kernel
theorem dX10_open_1 : decode cX10_open 1 = .ok (.iconst 0, 1) := by decide +kernel
theorem dX10_open_2 : decode cX10_open 2 = .ok (.putfield 1, 3) := by decide +kernel
theorem dX10_open_5 : decode cX10_open 5 = .ok (.aload_n 0, 1) := by decide +kernel
theorem dX10_open_6 : decode cX10_open 6 = .ok (.iload_n 1, 1) := by decide +kernel
theorem dX10_open_7 : decode cX10_open 7 = .ok (.invokevirtual 256, 3) := by decide +kernel
theorem dX10_open_10 : decode cX10_open 10 = .ok (.ifCond .eq 13, 3) := by decide +kernel
theorem dX10_open_23 : decode cX10_open 23 = .ok (.iconst (-1), 1) := by decide +kernel
theorem dX10_open_24 : decode cX10_open 24 = .ok (.ireturn, 1) := by decide +kernel
theorem dX10_parcel_0 : decode cX10_parcel 0 = .ok (.aload_n 0, 1) := by decide +kernel
theorem dX10_parcel_1 : decode cX10_parcel 1 = .ok (.iconst 0, 1) := by decide +kernel
theorem dX10_parcel_2 : decode cX10_parcel 2 = .ok (.putfield 1, 3) := by decide +kernel
theorem dX10_parcel_5 : decode cX10_parcel 5 = .ok (.aload_n 0, 1) := by decide +kernel
theorem dX10_parcel_6 : decode cX10_parcel 6 = .ok (.iload_n 1, 1) := by decide +kernel
theorem dX10_parcel_7 : decode cX10_parcel 7 = .ok (.invokevirtual 256, 3) := by decide +kernel
theorem dX10_parcel_10 : decode cX10_parcel 10 = .ok (.ifCond .ne 8, 3) := by decide +kernel
theorem dX10_parcel_13 : decode cX10_parcel 13 = .ok (.aload_n 0, 1) := by decide +kernel
theorem dX10_parcel_14 : decode cX10_parcel 14 = .ok (.invokevirtual 262, 3) := by decide +kernel
theorem dX10_parcel_17 : decode cX10_parcel 17 = .ok (.ireturn, 1) := by decide +kernel
theorem dX10_person_0 : decode cX10_person 0 = .ok (.aload_n 0, 1) := by decide +kernel
theorem dX10_person_1 : decode cX10_person 1 = .ok (.iconst 0, 1) := by decide +kernel
theorem dX10_person_2 : decode cX10_person 2 = .ok (.putfield 1, 3) := by decide +kernel
theorem dX10_person_5 : decode cX10_person 5 = .ok (.aload_n 0, 1) := by decide +kernel
theorem dX10_person_6 : decode cX10_person 6 = .ok (.iload_n 1, 1) := by decide +kernel
theorem dX10_person_7 : decode cX10_person 7 = .ok (.invokevirtual 274, 3) := by decide +kernel
theorem dX10_person_10 : decode cX10_person 10 = .ok (.ifCond .ne 8, 3) := by decide +kernel
theorem dX10_person_13 : decode cX10_person 13 = .ok (.aload_n 0, 1) := by decide +kernel
theorem dX10_person_14 : decode cX10_person 14 = .ok (.invokevirtual 262, 3) := by decide +kernel
theorem dX10_person_17 : decode cX10_person 17 = .ok (.ireturn, 1) := by decide +kernel
theorem dX10_post_0 : decode cX10_post 0 = .ok (.aload_n 0, 1) := by decide +kernel
theorem dX10_post_1 : decode cX10_post 1 = .ok (.sipush 900, 3) := by decide +kernel
theorem dX10_post_4 : decode cX10_post 4 = .ok (.invokevirtual 234, 3) := by decide +kernel
theorem dX10_post_7 : decode cX10_post 7 = .ok (.iconst 0, 1) := by decide +kernel
theorem dX10_post_8 : decode cX10_post 8 = .ok (.istore_n 1, 1) := by decide +kernel
theorem dX10_post_9 : decode cX10_post 9 = .ok (.iload_n 1, 1) := by decide +kernel
theorem dX10_post_10 : decode cX10_post 10 = .ok (.bipush 84, 2) := by decide +kernel
theorem dX10_post_12 : decode cX10_post 12 = .ok (.if_icmp .ge 16, 3) := by decide +kernel
theorem dX10_post_15 : decode cX10_post 15 = .ok (.aload_n 0, 1) := by decide +kernel
theorem dX10_post_16 : decode cX10_post 16 = .ok (.getfield 101, 3) := by decide +kernel
theorem dX10_post_19 : decode cX10_post 19 = .ok (.iload_n 1, 1) := by decide +kernel
theorem dX10_post_20 : decode cX10_post 20 = .ok (.iconst 0, 1) := by decide +kernel
theorem dX10_post_21 : decode cX10_post 21 = .ok (.iastore, 1) := by decide +kernel
theorem dX10_post_22 : decode cX10_post 22 = .ok (.iinc 1 1, 3) := by decide +kernel
theorem dX10_post_25 : decode cX10_post 25 = .ok (.goto (-16), 3) := by decide +kernel
theorem dX10_post_28 : decode cX10_post 28 = .ok (.aload_n 0, 1) := by decide +kernel
theorem dX10_post_29 : decode cX10_post 29 = .ok (.getfield 130, 3) := by decide +kernel
theorem dX10_post_32 : decode cX10_post 32 = .ok (.iconst 0, 1) := by decide +kernel
theorem dX10_post_33 : decode cX10_post 33 = .ok (.iconst 0, 1) := by decide +kernel
theorem dX10_post_34 : decode cX10_post 34 = .ok (.bastore, 1) := by decide +kernel
theorem dX10_post_35 : decode cX10_post 35 = .ok (.aload_n 0, 1) := by decide +kernel
theorem dX10_post_36 : decode cX10_post 36 = .ok (.getfield 130, 3) := by decide +kernel
theorem dX10_post_39 : decode cX10_post 39 = .ok (.iconst 1, 1) := by decide +kernel
theorem dX10_post_40 : decode cX10_post 40 = .ok (.iconst 0, 1) := by decide +kernel
theorem dX10_post_41 : decode cX10_post 41 = .ok (.bastore, 1) := by decide +kernel
theorem dX10_post_42 : decode cX10_post 42 = .ok (.aload_n 0, 1) := by decide +kernel
theorem dX10_post_43 : decode cX10_post 43 = .ok (.getfield 101, 3) := by decide +kernel
theorem dX10_post_46 : decode cX10_post 46 = .ok (.iconst 5, 1) := by decide +kernel
theorem dX10_post_47 : decode cX10_post 47 = .ok (.iconst 5, 1) := by decide +kernel
theorem dX10_post_48 : decode cX10_post 48 = .ok (.iastore, 1) := by decide +kernel
theorem dX10_post_49 : decode cX10_post 49 = .ok (.iconst 0, 1) := by decide +kernel
theorem dX10_post_50 : decode cX10_post 50 = .ok (.istore_n 1, 1) := by decide +kernel
theorem dX10_post_51 : decode cX10_post 51 = .ok (.aload_n 0, 1) := by decide +kernel
theorem dX10_post_52 : decode cX10_post 52 = .ok (.getfield 30, 3) := by decide +kernel
theorem dX10_post_55 : decode cX10_post 55 = .ok (.ifCond .eq 30, 3) := by decide +kernel
theorem dX10_post_85 : decode cX10_post 85 = .ok (.iconst 0, 1) := by decide +kernel
theorem dX10_post_86 : decode cX10_post 86 = .ok (.istore_n 2, 1) := by decide +kernel
theorem dX10_post_87 : decode cX10_post 87 = .ok (.iload_n 2, 1) := by decide +kernel
theorem dX10_post_88 : decode cX10_post 88 = .ok (.bipush 84, 2) := by decide +kernel
theorem dX10_post_90 : decode cX10_post 90 = .ok (.if_icmp .ge 21, 3) := by decide +kernel
theorem dX10_post_93 : decode cX10_post 93 = .ok (.aload_n 0, 1) := by decide +kernel
theorem dX10_post_94 : decode cX10_post 94 = .ok (.getfield 98, 3) := by decide +kernel
theorem dX10_post_97 : decode cX10_post 97 = .ok (.iload_n 2, 1) := by decide +kernel
theorem dX10_post_98 : decode cX10_post 98 = .ok (.aload_n 0, 1) := by decide +kernel
theorem dX10_post_99 : decode cX10_post 99 = .ok (.getfield 101, 3) := by decide +kernel
theorem dX10_post_102 : decode cX10_post 102 = .ok (.iload_n 2, 1) := by decide +kernel
theorem dX10_post_103 : decode cX10_post 103 = .ok (.iaload, 1) := by decide +kernel
theorem dX10_post_104 : decode cX10_post 104 = .ok (.iastore, 1) := by decide +kernel
theorem dX10_post_105 : decode cX10_post 105 = .ok (.iinc 2 1, 3) := by decide +kernel
theorem dX10_post_108 : decode cX10_post 108 = .ok (.goto (-21), 3) := by decide +kernel
theorem dX10_post_111 : decode cX10_post 111 = .ok (.iconst 0, 1) := by decide +kernel
theorem dX10_post_112 : decode cX10_post 112 = .ok (.istore_n 2, 1) := by decide +kernel
theorem dX10_post_113 : decode cX10_post 113 = .ok (.iload_n 2, 1) := by decide +kernel
theorem dX10_post_114 : decode cX10_post 114 = .ok (.bipush 24, 2) := by decide +kernel
theorem dX10_post_116 : decode cX10_post 116 = .ok (.if_icmp .ge 21, 3) := by decide +kernel
theorem dX10_post_119 : decode cX10_post 119 = .ok (.aload_n 0, 1) := by decide +kernel
theorem dX10_post_120 : decode cX10_post 120 = .ok (.getfield 116, 3) := by decide +kernel
theorem dX10_post_123 : decode cX10_post 123 = .ok (.iload_n 2, 1) := by decide +kernel
theorem dX10_post_124 : decode cX10_post 124 = .ok (.aload_n 0, 1) := by decide +kernel
theorem dX10_post_125 : decode cX10_post 125 = .ok (.getfield 120, 3) := by decide +kernel
theorem dX10_post_128 : decode cX10_post 128 = .ok (.iload_n 2, 1) := by decide +kernel
theorem dX10_post_129 : decode cX10_post 129 = .ok (.laload, 1) := by decide +kernel
theorem dX10_post_130 : decode cX10_post 130 = .ok (.lastore, 1) := by decide +kernel
theorem dX10_post_131 : decode cX10_post 131 = .ok (.iinc 2 1, 3) := by decide +kernel
theorem dX10_post_134 : decode cX10_post 134 = .ok (.goto (-21), 3) := by decide +kernel
theorem dX10_post_137 : decode cX10_post 137 = .ok (.aload_n 0, 1) := by decide +kernel
theorem dX10_post_138 : decode cX10_post 138 = .ok (.invokevirtual 243, 3) := by decide +kernel
theorem dX10_post_141 : decode cX10_post 141 = .ok (.aload_n 0, 1) := by decide +kernel
theorem dX10_post_142 : decode cX10_post 142 = .ok (.iconst 0, 1) := by decide +kernel
theorem dX10_post_143 : decode cX10_post 143 = .ok (.putfield 246, 3) := by decide +kernel
theorem dX10_post_146 : decode cX10_post 146 = .ok (.iload_n 1, 1) := by decide +kernel
theorem dX10_post_147 : decode cX10_post 147 = .ok (.ireturn, 1) := by decide +kernel
theorem dX10_quarrels_0 : decode cX10_quarrels 0 = .ok (.aload_n 0, 1) := by decide +kernel
theorem dX10_quarrels_1 : decode cX10_quarrels 1 = .ok (.iconst 0, 1) := by decide +kernel
theorem dX10_quarrels_2 : decode cX10_quarrels 2 = .ok (.putfield 1, 3) := by decide +kernel
theorem dX10_quarrels_5 : decode cX10_quarrels 5 = .ok (.aload_n 0, 1) := by decide +kernel
theorem dX10_quarrels_6 : decode cX10_quarrels 6 = .ok (.iload_n 1, 1) := by decide +kernel
theorem dX10_quarrels_7 : decode cX10_quarrels 7 = .ok (.invokevirtual 259, 3) := by decide +kernel
theorem dX10_quarrels_10 : decode cX10_quarrels 10 = .ok (.ifCond .eq 15, 3) := by decide +kernel
theorem dX10_quarrels_25 : decode cX10_quarrels 25 = .ok (.iconst (-1), 1) := by decide +kernel
theorem dX10_quarrels_26 : decode cX10_quarrels 26 = .ok (.ireturn, 1) := by decide +kernel
theorem dX10_rest_0 : decode cX10_rest 0 = .ok (.aload_n 0, 1) := by decide +kernel
theorem dX10_rest_1 : decode cX10_rest 1 = .ok (.iconst 0, 1) := by decide +kernel
theorem dX10_rest_2 : decode cX10_rest 2 = .ok (.putfield 1, 3) := by decide +kernel
theorem dX10_rest_5 : decode cX10_rest 5 = .ok (.aload_n 0, 1) := by decide +kernel
theorem dX10_rest_6 : decode cX10_rest 6 = .ok (.invokevirtual 328, 3) := by decide +kernel
theorem dX10_rest_9 : decode cX10_rest 9 = .ok (.iconst 0, 1) := by decide +kernel
theorem dX10_rest_10 : decode cX10_rest 10 = .ok (.istore_n 1, 1) := by decide +kernel
theorem dX10_rest_11 : decode cX10_rest 11 = .ok (.iconst 1, 1) := by decide +kernel
theorem dX10_rest_12 : decode cX10_rest 12 = .ok (.istore_n 2, 1) := by decide +kernel
theorem dX10_rest_13 : decode cX10_rest 13 = .ok (.iload_n 2, 1) := by decide +kernel
theorem dX10_rest_14 : decode cX10_rest 14 = .ok (.ifCond .eq 45, 3) := by decide +kernel
theorem dX10_rest_17 : decode cX10_rest 17 = .ok (.iload_n 1, 1) := by decide +kernel
theorem dX10_rest_18 : decode cX10_rest 18 = .ok (.bipush 10, 2) := by decide +kernel
theorem dX10_rest_20 : decode cX10_rest 20 = .ok (.if_icmp .ge 39, 3) := by decide +kernel
theorem dX10_rest_23 : decode cX10_rest 23 = .ok (.iconst 0, 1) := by decide +kernel
theorem dX10_rest_24 : decode cX10_rest 24 = .ok (.istore_n 2, 1) := by decide +kernel
theorem dX10_rest_25 : decode cX10_rest 25 = .ok (.iconst 0, 1) := by decide +kernel
theorem dX10_rest_26 : decode cX10_rest 26 = .ok (.istore_n 3, 1) := by decide +kernel
theorem dX10_rest_27 : decode cX10_rest 27 = .ok (.iload_n 3, 1) := by decide +kernel
theorem dX10_rest_28 : decode cX10_rest 28 = .ok (.aload_n 0, 1) := by decide +kernel
theorem dX10_rest_29 : decode cX10_rest 29 = .ok (.getfield 98, 3) := by decide +kernel
theorem dX10_rest_32 : decode cX10_rest 32 = .ok (.iconst 3, 1) := by decide +kernel
theorem dX10_rest_33 : decode cX10_rest 33 = .ok (.iaload, 1) := by decide +kernel
theorem dX10_rest_34 : decode cX10_rest 34 = .ok (.if_icmp .ge 19, 3) := by decide +kernel
theorem dX10_rest_53 : decode cX10_rest 53 = .ok (.iinc 1 1, 3) := by decide +kernel
theorem dX10_rest_56 : decode cX10_rest 56 = .ok (.goto (-43), 3) := by decide +kernel
theorem dX10_rest_59 : decode cX10_rest 59 = .ok (.iconst 0, 1) := by decide +kernel
theorem dX10_rest_60 : decode cX10_rest 60 = .ok (.istore_n 3, 1) := by decide +kernel
theorem dX10_rest_61 : decode cX10_rest 61 = .ok (.iload_n 3, 1) := by decide +kernel
theorem dX10_rest_62 : decode cX10_rest 62 = .ok (.bipush 8, 2) := by decide +kernel
theorem dX10_rest_64 : decode cX10_rest 64 = .ok (.if_icmp .ge 24, 3) := by decide +kernel
theorem dX10_rest_67 : decode cX10_rest 67 = .ok (.aload_n 0, 1) := by decide +kernel
theorem dX10_rest_68 : decode cX10_rest 68 = .ok (.getfield 154, 3) := by decide +kernel
theorem dX10_rest_71 : decode cX10_rest 71 = .ok (.iload_n 3, 1) := by decide +kernel
theorem dX10_rest_72 : decode cX10_rest 72 = .ok (.aload_n 0, 1) := by decide +kernel
theorem dX10_rest_73 : decode cX10_rest 73 = .ok (.getfield 98, 3) := by decide +kernel
theorem dX10_rest_76 : decode cX10_rest 76 = .ok (.bipush 112, 2) := by decide +kernel
theorem dX10_rest_78 : decode cX10_rest 78 = .ok (.iload_n 3, 1) := by decide +kernel
theorem dX10_rest_79 : decode cX10_rest 79 = .ok (.iadd, 1) := by decide +kernel
theorem dX10_rest_80 : decode cX10_rest 80 = .ok (.iaload, 1) := by decide +kernel
theorem dX10_rest_81 : decode cX10_rest 81 = .ok (.iastore, 1) := by decide +kernel
theorem dX10_rest_82 : decode cX10_rest 82 = .ok (.iinc 3 1, 3) := by decide +kernel
theorem dX10_rest_85 : decode cX10_rest 85 = .ok (.goto (-24), 3) := by decide +kernel
theorem dX10_rest_88 : decode cX10_rest 88 = .ok (.aload_n 0, 1) := by decide +kernel
theorem dX10_rest_89 : decode cX10_rest 89 = .ok (.aload_n 0, 1) := by decide +kernel
theorem dX10_rest_90 : decode cX10_rest 90 = .ok (.getfield 98, 3) := by decide +kernel
theorem dX10_rest_93 : decode cX10_rest 93 = .ok (.iconst 3, 1) := by decide +kernel
theorem dX10_rest_94 : decode cX10_rest 94 = .ok (.iaload, 1) := by decide +kernel
theorem dX10_rest_95 : decode cX10_rest 95 = .ok (.putfield 365, 3) := by decide +kernel
theorem dX10_rest_98 : decode cX10_rest 98 = .ok (.aload_n 0, 1) := by decide +kernel
theorem dX10_rest_99 : decode cX10_rest 99 = .ok (.invokevirtual 331, 3) := by decide +kernel
theorem dX10_rest_102 : decode cX10_rest 102 = .ok (.iload_n 1, 1) := by decide +kernel
theorem dX10_rest_103 : decode cX10_rest 103 = .ok (.ireturn, 1) := by decide +kernel
theorem dX10_rested_0 : decode cX10_rested 0 = .ok (.aload_n 0, 1) := by decide +kernel
theorem dX10_rested_1 : decode cX10_rested 1 = .ok (.iconst 0, 1) := by decide +kernel
theorem dX10_rested_2 : decode cX10_rested 2 = .ok (.putfield 1, 3) := by decide +kernel
theorem dX10_rested_5 : decode cX10_rested 5 = .ok (.iload_n 1, 1) := by decide +kernel
theorem dX10_rested_6 : decode cX10_rested 6 = .ok (.iconst 0, 1) := by decide +kernel
theorem dX10_rested_7 : decode cX10_rested 7 = .ok (.aload_n 0, 1) := by decide +kernel
theorem dX10_rested_8 : decode cX10_rested 8 = .ok (.getfield 365, 3) := by decide +kernel
theorem dX10_rested_11 : decode cX10_rested 11 = .ok (.iconst 1, 1) := by decide +kernel
theorem dX10_rested_12 : decode cX10_rested 12 = .ok (.isub, 1) := by decide +kernel
theorem dX10_rested_13 : decode cX10_rested 13 = .ok (.invokestatic 75, 3) := by decide +kernel
theorem dX10_rested_16 : decode cX10_rested 16 = .ok (.ifCond .eq 12, 3) := by decide +kernel
theorem dX10_rested_28 : decode cX10_rested 28 = .ok (.iconst (-1), 1) := by decide +kernel
theorem dX10_rested_29 : decode cX10_rested 29 = .ok (.ireturn, 1) := by decide +kernel
theorem dX10_restore_0 : decode cX10_restore 0 = .ok (.aload_n 0, 1) := by decide +kernel
theorem dX10_restore_1 : decode cX10_restore 1 = .ok (.iconst 0, 1) := by decide +kernel
theorem dX10_restore_2 : decode cX10_restore 2 = .ok (.putfield 1, 3) := by decide +kernel
theorem dX10_restore_5 : decode cX10_restore 5 = .ok (.iload_n 1, 1) := by decide +kernel
theorem dX10_restore_6 : decode cX10_restore 6 = .ok (.iconst 0, 1) := by decide +kernel
theorem dX10_restore_7 : decode cX10_restore 7 = .ok (.iconst 1, 1) := by decide +kernel
theorem dX10_restore_8 : decode cX10_restore 8 = .ok (.invokestatic 75, 3) := by decide +kernel
theorem dX10_restore_11 : decode cX10_restore 11 = .ok (.ifCond .eq 12, 3) := by decide +kernel
theorem dX10_restore_14 : decode cX10_restore 14 = .ok (.aload_n 0, 1) := by decide +kernel
theorem dX10_restore_15 : decode cX10_restore 15 = .ok (.getfield 126, 3) := by decide +kernel
theorem dX10_restore_18 : decode cX10_restore 18 = .ok (.iload_n 1, 1) := by decide +kernel
theorem dX10_restore_19 : decode cX10_restore 19 = .ok (.baload, 1) := by decide +kernel
theorem dX10_restore_20 : decode cX10_restore 20 = .ok (.ifCond .ne 5, 3) := by decide +kernel
theorem dX10_restore_23 : decode cX10_restore 23 = .ok (.iconst 0, 1) := by decide +kernel
theorem dX10_restore_24 : decode cX10_restore 24 = .ok (.ireturn, 1) := by decide +kernel
theorem dX10_roomOf_0 : decode cX10_roomOf 0 = .ok (.aload_n 0, 1) := by decide +kernel
theorem dX10_roomOf_1 : decode cX10_roomOf 1 = .ok (.iconst 0, 1) := by decide +kernel
theorem dX10_roomOf_2 : decode cX10_roomOf 2 = .ok (.putfield 1, 3) := by decide +kernel
theorem dX10_roomOf_5 : decode cX10_roomOf 5 = .ok (.aload_n 0, 1) := by decide +kernel
theorem dX10_roomOf_6 : decode cX10_roomOf 6 = .ok (.getfield 355, 3) := by decide +kernel
theorem dX10_roomOf_9 : decode cX10_roomOf 9 = .ok (.ifCond .eq 26, 3) := by decide +kernel
theorem dX10_roomOf_35 : decode cX10_roomOf 35 = .ok (.iconst (-1), 1) := by decide +kernel
theorem dX10_roomOf_36 : decode cX10_roomOf 36 = .ok (.ireturn, 1) := by decide +kernel
theorem dX10_rooms_0 : decode cX10_rooms 0 = .ok (.aload_n 0, 1) := by decide +kernel
theorem dX10_rooms_1 : decode cX10_rooms 1 = .ok (.iconst 0, 1) := by decide +kernel
theorem dX10_rooms_2 : decode cX10_rooms 2 = .ok (.putfield 1, 3) := by decide +kernel
theorem dX10_rooms_5 : decode cX10_rooms 5 = .ok (.iconst 0, 1) := by decide +kernel
theorem dX10_rooms_6 : decode cX10_rooms 6 = .ok (.istore_n 1, 1) := by decide +kernel
theorem dX10_rooms_7 : decode cX10_rooms 7 = .ok (.aload_n 0, 1) := by decide +kernel
theorem dX10_rooms_8 : decode cX10_rooms 8 = .ok (.iconst 0, 1) := by decide +kernel
theorem dX10_rooms_9 : decode cX10_rooms 9 = .ok (.iload_n 1, 1) := by decide +kernel
theorem dX10_rooms_10 : decode cX10_rooms 10 = .ok (.invokevirtual 349, 3) := by decide +kernel
theorem dX10_rooms_13 : decode cX10_rooms 13 = .ok (.ifCond .ne 9, 3) := by decide +kernel
theorem dX10_rooms_22 : decode cX10_rooms 22 = .ok (.iconst 0, 1) := by decide +kernel
theorem dX10_rooms_23 : decode cX10_rooms 23 = .ok (.istore_n 2, 1) := by decide +kernel
theorem dX10_rooms_24 : decode cX10_rooms 24 = .ok (.iload_n 2, 1) := by decide +kernel
theorem dX10_rooms_25 : decode cX10_rooms 25 = .ok (.bipush 6, 2) := by decide +kernel
theorem dX10_rooms_27 : decode cX10_rooms 27 = .ok (.if_icmp .ge 21, 3) := by decide +kernel
theorem dX10_rooms_30 : decode cX10_rooms 30 = .ok (.aload_n 0, 1) := by decide +kernel
theorem dX10_rooms_31 : decode cX10_rooms 31 = .ok (.getfield 151, 3) := by decide +kernel
theorem dX10_rooms_34 : decode cX10_rooms 34 = .ok (.iload_n 2, 1) := by decide +kernel
theorem dX10_rooms_35 : decode cX10_rooms 35 = .ok (.aload_n 0, 1) := by decide +kernel
theorem dX10_rooms_36 : decode cX10_rooms 36 = .ok (.getfield 148, 3) := by decide +kernel
theorem dX10_rooms_39 : decode cX10_rooms 39 = .ok (.iload_n 2, 1) := by decide +kernel
theorem dX10_rooms_40 : decode cX10_rooms 40 = .ok (.iaload, 1) := by decide +kernel
theorem dX10_rooms_41 : decode cX10_rooms 41 = .ok (.iastore, 1) := by decide +kernel
theorem dX10_rooms_42 : decode cX10_rooms 42 = .ok (.iinc 2 1, 3) := by decide +kernel
theorem dX10_rooms_45 : decode cX10_rooms 45 = .ok (.goto (-21), 3) := by decide +kernel
theorem dX10_rooms_48 : decode cX10_rooms 48 = .ok (.aload_n 0, 1) := by decide +kernel
theorem dX10_rooms_49 : decode cX10_rooms 49 = .ok (.aload_n 0, 1) := by decide +kernel
theorem dX10_rooms_50 : decode cX10_rooms 50 = .ok (.getfield 98, 3) := by decide +kernel
theorem dX10_rooms_53 : decode cX10_rooms 53 = .ok (.iconst 2, 1) := by decide +kernel
theorem dX10_rooms_54 : decode cX10_rooms 54 = .ok (.iaload, 1) := by decide +kernel
theorem dX10_rooms_55 : decode cX10_rooms 55 = .ok (.putfield 352, 3) := by decide +kernel
theorem dX10_rooms_58 : decode cX10_rooms 58 = .ok (.aload_n 0, 1) := by decide +kernel
theorem dX10_rooms_59 : decode cX10_rooms 59 = .ok (.iconst 1, 1) := by decide +kernel
theorem dX10_rooms_60 : decode cX10_rooms 60 = .ok (.putfield 355, 3) := by decide +kernel
theorem dX10_rooms_63 : decode cX10_rooms 63 = .ok (.iload_n 1, 1) := by decide +kernel
theorem dX10_rooms_64 : decode cX10_rooms 64 = .ok (.ireturn, 1) := by decide +kernel
theorem dX10_said_0 : decode cX10_said 0 = .ok (.aload_n 0, 1) := by decide +kernel
theorem dX10_said_1 : decode cX10_said 1 = .ok (.iconst 0, 1) := by decide +kernel
theorem dX10_said_2 : decode cX10_said 2 = .ok (.putfield 1, 3) := by decide +kernel
theorem dX10_said_5 : decode cX10_said 5 = .ok (.aload_n 0, 1) := by decide +kernel
theorem dX10_said_6 : decode cX10_said 6 = .ok (.getfield 98, 3) := by decide +kernel
theorem dX10_said_9 : decode cX10_said 9 = .ok (.sipush 172, 3) := by decide +kernel
theorem dX10_said_12 : decode cX10_said 12 = .ok (.iaload, 1) := by decide +kernel
theorem dX10_said_13 : decode cX10_said 13 = .ok (.ifCond .ne 5, 3) := by decide +kernel
theorem dX10_said_16 : decode cX10_said 16 = .ok (.iconst (-1), 1) := by decide +kernel
theorem dX10_said_17 : decode cX10_said 17 = .ok (.ireturn, 1) := by decide +kernel
theorem dX10_sat_0 : decode cX10_sat 0 = .ok (.aload_n 0, 1) := by decide +kernel
theorem dX10_sat_1 : decode cX10_sat 1 = .ok (.iconst 0, 1) := by decide +kernel
theorem dX10_sat_2 : decode cX10_sat 2 = .ok (.putfield 1, 3) := by decide +kernel
theorem dX10_sat_5 : decode cX10_sat 5 = .ok (.aload_n 0, 1) := by decide +kernel
theorem dX10_sat_6 : decode cX10_sat 6 = .ok (.invokevirtual 89, 3) := by decide +kernel
theorem dX10_sat_9 : decode cX10_sat 9 = .ok (.iconst 4, 1) := by decide +kernel
theorem dX10_sat_10 : decode cX10_sat 10 = .ok (.if_icmp .ne 69, 3) := by decide +kernel
theorem dX10_sat_79 : decode cX10_sat 79 = .ok (.iconst (-1), 1) := by decide +kernel
theorem dX10_sat_80 : decode cX10_sat 80 = .ok (.ireturn, 1) := by decide +kernel
theorem dX10_sentence_0 : decode cX10_sentence 0 = .ok (.aload_n 0, 1) := by decide +kernel
theorem dX10_sentence_1 : decode cX10_sentence 1 = .ok (.sipush 200, 3) := by decide +kernel
theorem dX10_sentence_4 : decode cX10_sentence 4 = .ok (.invokevirtual 234, 3) := by decide +kernel
theorem dX10_sentence_7 : decode cX10_sentence 7 = .ok (.aload_n 0, 1) := by decide +kernel
theorem dX10_sentence_8 : decode cX10_sentence 8 = .ok (.iconst 0, 1) := by decide +kernel
theorem dX10_sentence_9 : decode cX10_sentence 9 = .ok (.putfield 425, 3) := by decide +kernel
theorem dX10_sentence_12 : decode cX10_sentence 12 = .ok (.aload_n 0, 1) := by decide +kernel
theorem dX10_sentence_13 : decode cX10_sentence 13 = .ok (.iconst 0, 1) := by decide +kernel
theorem dX10_sentence_14 : decode cX10_sentence 14 = .ok (.putfield 441, 3) := by decide +kernel
theorem dX10_sentence_17 : decode cX10_sentence 17 = .ok (.aload_n 0, 1) := by decide +kernel
theorem dX10_sentence_18 : decode cX10_sentence 18 = .ok (.iconst 0, 1) := by decide +kernel
theorem dX10_sentence_19 : decode cX10_sentence 19 = .ok (.putfield 444, 3) := by decide +kernel
theorem dX10_sentence_22 : decode cX10_sentence 22 = .ok (.aload_n 0, 1) := by decide +kernel
theorem dX10_sentence_23 : decode cX10_sentence 23 = .ok (.invokevirtual 459, 3) := by decide +kernel
theorem dX10_sentence_26 : decode cX10_sentence 26 = .ok (.ifCond .ne 10, 3) := by decide +kernel
theorem dX10_sentence_29 : decode cX10_sentence 29 = .ok (.iconst (-1), 1) := by decide +kernel
theorem dX10_sentence_30 : decode cX10_sentence 30 = .ok (.aload_n 0, 1) := by decide +kernel
theorem dX10_sentence_31 : decode cX10_sentence 31 = .ok (.getfield 69, 3) := by decide +kernel
theorem dX10_sentence_34 : decode cX10_sentence 34 = .ok (.isub, 1) := by decide +kernel
theorem dX10_sentence_35 : decode cX10_sentence 35 = .ok (.ireturn, 1) := by decide +kernel
theorem dX10_sit_0 : decode cX10_sit 0 = .ok (.aload_n 0, 1) := by decide +kernel
theorem dX10_sit_1 : decode cX10_sit 1 = .ok (.iconst 0, 1) := by decide +kernel
theorem dX10_sit_2 : decode cX10_sit 2 = .ok (.putfield 1, 3) := by decide +kernel
theorem dX10_sit_5 : decode cX10_sit 5 = .ok (.aload_n 0, 1) := by decide +kernel
theorem dX10_sit_6 : decode cX10_sit 6 = .ok (.iload_n 1, 1) := by decide +kernel
theorem dX10_sit_7 : decode cX10_sit 7 = .ok (.invokevirtual 274, 3) := by decide +kernel
theorem dX10_sit_10 : decode cX10_sit 10 = .ok (.ifCond .eq 21, 3) := by decide +kernel
theorem dX10_sit_31 : decode cX10_sit 31 = .ok (.iconst (-1), 1) := by decide +kernel
theorem dX10_sit_32 : decode cX10_sit 32 = .ok (.ireturn, 1) := by decide +kernel
theorem dX10_sitters_0 : decode cX10_sitters 0 = .ok (.aload_n 0, 1) := by decide +kernel
theorem dX10_sitters_1 : decode cX10_sitters 1 = .ok (.iconst 0, 1) := by decide +kernel
theorem dX10_sitters_2 : decode cX10_sitters 2 = .ok (.putfield 1, 3) := by decide +kernel
theorem dX10_sitters_5 : decode cX10_sitters 5 = .ok (.aload_n 0, 1) := by decide +kernel
theorem dX10_sitters_6 : decode cX10_sitters 6 = .ok (.iload_n 1, 1) := by decide +kernel
theorem dX10_sitters_7 : decode cX10_sitters 7 = .ok (.invokevirtual 256, 3) := by decide +kernel
theorem dX10_sitters_10 : decode cX10_sitters 10 = .ok (.ifCond .eq 44, 3) := by decide +kernel
theorem dX10_sitters_54 : decode cX10_sitters 54 = .ok (.iconst (-1), 1) := by decide +kernel
theorem dX10_sitters_55 : decode cX10_sitters 55 = .ok (.ireturn, 1) := by decide +kernel
theorem dX10_sitting_0 : decode cX10_sitting 0 = .ok (.aload_n 0, 1) := by decide +kernel
theorem dX10_sitting_1 : decode cX10_sitting 1 = .ok (.iconst 0, 1) := by decide +kernel
theorem dX10_sitting_2 : decode cX10_sitting 2 = .ok (.putfield 1, 3) := by decide +kernel
theorem dX10_sitting_5 : decode cX10_sitting 5 = .ok (.aload_n 0, 1) := by decide +kernel
theorem dX10_sitting_6 : decode cX10_sitting 6 = .ok (.getfield 136, 3) := by decide +kernel
theorem dX10_sitting_9 : decode cX10_sitting 9 = .ok (.ireturn, 1) := by decide +kernel
theorem dX10_stand_0 : decode cX10_stand 0 = .ok (.aload_n 0, 1) := by decide +kernel
theorem dX10_stand_1 : decode cX10_stand 1 = .ok (.iconst 0, 1) := by decide +kernel
theorem dX10_stand_2 : decode cX10_stand 2 = .ok (.putfield 1, 3) := by decide +kernel
theorem dX10_stand_5 : decode cX10_stand 5 = .ok (.aload_n 0, 1) := by decide +kernel
theorem dX10_stand_6 : decode cX10_stand 6 = .ok (.iload_n 1, 1) := by decide +kernel
theorem dX10_stand_7 : decode cX10_stand 7 = .ok (.invokevirtual 274, 3) := by decide +kernel
theorem dX10_stand_10 : decode cX10_stand 10 = .ok (.ifCond .eq 13, 3) := by decide +kernel
theorem dX10_stand_23 : decode cX10_stand 23 = .ok (.iconst (-1), 1) := by decide +kernel
theorem dX10_stand_24 : decode cX10_stand 24 = .ok (.ireturn, 1) := by decide +kernel
theorem dX10_surely_0 : decode cX10_surely 0 = .ok (.aload_n 0, 1) := by decide +kernel
theorem dX10_surely_1 : decode cX10_surely 1 = .ok (.iconst 0, 1) := by decide +kernel
theorem dX10_surely_2 : decode cX10_surely 2 = .ok (.putfield 1, 3) := by decide +kernel
theorem dX10_surely_5 : decode cX10_surely 5 = .ok (.aload_n 0, 1) := by decide +kernel
theorem dX10_surely_6 : decode cX10_surely 6 = .ok (.getfield 142, 3) := by decide +kernel
theorem dX10_surely_9 : decode cX10_surely 9 = .ok (.ireturn, 1) := by decide +kernel
theorem dX10_tag_0 : decode cX10_tag 0 = .ok (.aload_n 0, 1) := by decide +kernel
theorem dX10_tag_1 : decode cX10_tag 1 = .ok (.iconst 0, 1) := by decide +kernel
theorem dX10_tag_2 : decode cX10_tag 2 = .ok (.putfield 1, 3) := by decide +kernel
theorem dX10_tag_5 : decode cX10_tag 5 = .ok (.aload_n 0, 1) := by decide +kernel
theorem dX10_tag_6 : decode cX10_tag 6 = .ok (.iload_n 1, 1) := by decide +kernel
theorem dX10_tag_7 : decode cX10_tag 7 = .ok (.invokevirtual 256, 3) := by decide +kernel
theorem dX10_tag_10 : decode cX10_tag 10 = .ok (.ifCond .ne 5, 3) := by decide +kernel
theorem dX10_tag_13 : decode cX10_tag 13 = .ok (.iconst (-1), 1) := by decide +kernel
theorem dX10_tag_14 : decode cX10_tag 14 = .ok (.ireturn, 1) := by decide +kernel
theorem dX10_thrown_0 : decode cX10_thrown 0 = .ok (.aload_n 0, 1) := by decide +kernel
theorem dX10_thrown_1 : decode cX10_thrown 1 = .ok (.getfield 1, 3) := by decide +kernel
theorem dX10_thrown_4 : decode cX10_thrown 4 = .ok (.ireturn, 1) := by decide +kernel
theorem dX10_told_0 : decode cX10_told 0 = .ok (.aload_n 0, 1) := by decide +kernel
theorem dX10_told_1 : decode cX10_told 1 = .ok (.iconst 0, 1) := by decide +kernel
theorem dX10_told_2 : decode cX10_told 2 = .ok (.putfield 1, 3) := by decide +kernel
theorem dX10_told_5 : decode cX10_told 5 = .ok (.aload_n 0, 1) := by decide +kernel
theorem dX10_told_6 : decode cX10_told 6 = .ok (.getfield 418, 3) := by decide +kernel
theorem dX10_told_9 : decode cX10_told 9 = .ok (.ifCond .eq 21, 3) := by decide +kernel
theorem dX10_told_30 : decode cX10_told 30 = .ok (.iconst (-1), 1) := by decide +kernel
theorem dX10_told_31 : decode cX10_told 31 = .ok (.ireturn, 1) := by decide +kernel
theorem dX10_undo_0 : decode cX10_undo 0 = .ok (.aload_n 0, 1) := by decide +kernel
theorem dX10_undo_1 : decode cX10_undo 1 = .ok (.iconst 0, 1) := by decide +kernel
theorem dX10_undo_2 : decode cX10_undo 2 = .ok (.putfield 1, 3) := by decide +kernel
theorem dX10_undo_5 : decode cX10_undo 5 = .ok (.aload_n 0, 1) := by decide +kernel
theorem dX10_undo_6 : decode cX10_undo 6 = .ok (.getfield 246, 3) := by decide +kernel
theorem dX10_undo_9 : decode cX10_undo 9 = .ok (.ifCond .ne 5, 3) := by decide +kernel
theorem dX10_undo_12 : decode cX10_undo 12 = .ok (.iconst (-1), 1) := by decide +kernel
theorem dX10_undo_13 : decode cX10_undo 13 = .ok (.ireturn, 1) := by decide +kernel
theorem dX10_when_0 : decode cX10_when 0 = .ok (.aload_n 0, 1) := by decide +kernel
theorem dX10_when_1 : decode cX10_when 1 = .ok (.iconst 0, 1) := by decide +kernel
theorem dX10_when_2 : decode cX10_when 2 = .ok (.putfield 1, 3) := by decide +kernel
theorem dX10_when_5 : decode cX10_when 5 = .ok (.aload_n 0, 1) := by decide +kernel
theorem dX10_when_6 : decode cX10_when 6 = .ok (.iload_n 1, 1) := by decide +kernel
theorem dX10_when_7 : decode cX10_when 7 = .ok (.invokevirtual 256, 3) := by decide +kernel
theorem dX10_when_10 : decode cX10_when 10 = .ok (.ifCond .eq 11, 3) := by decide +kernel
theorem dX10_when_21 : decode cX10_when 21 = .ok (.iconst (-1), 1) := by decide +kernel
theorem dX10_when_22 : decode cX10_when 22 = .ok (.ireturn, 1) := by decide +kernel
theorem dX10_wish_0 : decode cX10_wish 0 = .ok (.aload_n 0, 1) := by decide +kernel
theorem dX10_wish_1 : decode cX10_wish 1 = .ok (.iconst 0, 1) := by decide +kernel
theorem dX10_wish_2 : decode cX10_wish 2 = .ok (.putfield 1, 3) := by decide +kernel
theorem dX10_wish_5 : decode cX10_wish 5 = .ok (.aload_n 0, 1) := by decide +kernel
theorem dX10_wish_6 : decode cX10_wish 6 = .ok (.iload_n 1, 1) := by decide +kernel
theorem dX10_wish_7 : decode cX10_wish 7 = .ok (.invokevirtual 274, 3) := by decide +kernel
theorem dX10_wish_10 : decode cX10_wish 10 = .ok (.ifCond .eq 21, 3) := by decide +kernel
theorem dX10_wish_31 : decode cX10_wish 31 = .ok (.iconst (-1), 1) := by decide +kernel
theorem dX10_wish_32 : decode cX10_wish 32 = .ok (.ireturn, 1) := by decide +kernel
