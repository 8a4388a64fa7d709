theorem inX10 : ∀ w ∈ u_ws RX10 TX10 49, w ∈ gT := by decide +kernel
theorem dfX10 : ∀ j, j < 49 → defaultValue (tyX10 j) = vp_V [.int 0, .null, .int 0, .int 0, .int 0, .int 0, .int 0, .int 0, .int 0, .int 0, .int 0, .int 0, .long 0, .int 0, .null, .null, .null, .null, .null, .null, .null, .null, .null, .null, .null, .int 0, .null, .int 0, .null, .int 0, .int 0, .null, .null, .int 0, .int 0, .null, .int 0, .null, .int 0, .int 0, .null, .null, .int 0, .int 0, .null, .int 0, .int 0, .int 0, .int 0] j := by decide +kernel
theorem tw_15 : Cond.initialized RX10 ∈ gT := gT_t (List.mem_of_getElem? (i := 15) (by decide +kernel)) (by decide +kernel)
theorem tw_1140 : Cond.methodLink RX10 (93 : Nat) (⟨"java/lang/Object", "<init>", "()V"⟩ : MethodName) ∈ gT := gT_t (List.mem_of_getElem? (i := 1140) (by decide +kernel)) (by decide +kernel)
theorem tw_1141 : Cond.fieldLink RX10 (1 : Nat) "WonderParcelsModel" "thrown" "I" ∈ gT := gT_t (List.mem_of_getElem? (i := 1141) (by decide +kernel)) (by decide +kernel)
theorem tw_1142 : Cond.fieldLink RX10 (7 : Nat) "WonderParcelsModel" "tape" "[I" ∈ gT := gT_t (List.mem_of_getElem? (i := 1142) (by decide +kernel)) (by decide +kernel)
theorem tw_1143 : Cond.fieldLink RX10 (11 : Nat) "WonderParcelsModel" "taped" "I" ∈ gT := gT_t (List.mem_of_getElem? (i := 1143) (by decide +kernel)) (by decide +kernel)
theorem tw_1144 : Cond.fieldLink RX10 (18 : Nat) "WonderParcelsModel" "size" "I" ∈ gT := gT_t (List.mem_of_getElem? (i := 1144) (by decide +kernel)) (by decide +kernel)
theorem tw_1145 : Cond.fieldLink RX10 (27 : Nat) "WonderParcelsModel" "limit" "I" ∈ gT := gT_t (List.mem_of_getElem? (i := 1145) (by decide +kernel)) (by decide +kernel)
theorem tw_1146 : Cond.fieldLink RX10 (21 : Nat) "WonderParcelsModel" "to" "I" ∈ gT := gT_t (List.mem_of_getElem? (i := 1146) (by decide +kernel)) (by decide +kernel)
theorem tw_1147 : Cond.fieldLink RX10 (24 : Nat) "WonderParcelsModel" "from" "I" ∈ gT := gT_t (List.mem_of_getElem? (i := 1147) (by decide +kernel)) (by decide +kernel)
theorem tw_1148 : Cond.fieldLink RX10 (30 : Nat) "WonderParcelsModel" "kind" "I" ∈ gT := gT_t (List.mem_of_getElem? (i := 1148) (by decide +kernel)) (by decide +kernel)
theorem tw_1151 : Cond.fieldLink RX10 (66 : Nat) "WonderParcelsModel" "fault" "I" ∈ gT := gT_t (List.mem_of_getElem? (i := 1151) (by decide +kernel)) (by decide +kernel)
theorem tw_1152 : Cond.fieldLink RX10 (69 : Nat) "WonderParcelsModel" "place" "I" ∈ gT := gT_t (List.mem_of_getElem? (i := 1152) (by decide +kernel)) (by decide +kernel)
theorem tw_1155 : Cond.fieldLink RX10 (98 : Nat) "WonderParcelsModel" "now" "[I" ∈ gT := gT_t (List.mem_of_getElem? (i := 1155) (by decide +kernel)) (by decide +kernel)
theorem tw_1156 : Cond.fieldLink RX10 (101 : Nat) "WonderParcelsModel" "read" "[I" ∈ gT := gT_t (List.mem_of_getElem? (i := 1156) (by decide +kernel)) (by decide +kernel)
theorem tw_1157 : Cond.fieldLink RX10 (104 : Nat) "WonderParcelsModel" "kept" "[I" ∈ gT := gT_t (List.mem_of_getElem? (i := 1157) (by decide +kernel)) (by decide +kernel)
theorem tw_1158 : Cond.fieldLink RX10 (107 : Nat) "WonderParcelsModel" "snaps" "[I" ∈ gT := gT_t (List.mem_of_getElem? (i := 1158) (by decide +kernel)) (by decide +kernel)
theorem tw_1159 : Cond.fieldLink RX10 (110 : Nat) "WonderParcelsModel" "aside" "[I" ∈ gT := gT_t (List.mem_of_getElem? (i := 1159) (by decide +kernel)) (by decide +kernel)
theorem tw_1160 : Cond.fieldLink RX10 (113 : Nat) "WonderParcelsModel" "held" "[I" ∈ gT := gT_t (List.mem_of_getElem? (i := 1160) (by decide +kernel)) (by decide +kernel)
theorem tw_1161 : Cond.fieldLink RX10 (116 : Nat) "WonderParcelsModel" "name" "[J" ∈ gT := gT_t (List.mem_of_getElem? (i := 1161) (by decide +kernel)) (by decide +kernel)
theorem tw_1162 : Cond.fieldLink RX10 (120 : Nat) "WonderParcelsModel" "readName" "[J" ∈ gT := gT_t (List.mem_of_getElem? (i := 1162) (by decide +kernel)) (by decide +kernel)
theorem tw_1163 : Cond.fieldLink RX10 (123 : Nat) "WonderParcelsModel" "keptName" "[J" ∈ gT := gT_t (List.mem_of_getElem? (i := 1163) (by decide +kernel)) (by decide +kernel)
theorem tw_1164 : Cond.fieldLink RX10 (126 : Nat) "WonderParcelsModel" "isKept" "[Z" ∈ gT := gT_t (List.mem_of_getElem? (i := 1164) (by decide +kernel)) (by decide +kernel)
theorem tw_1165 : Cond.fieldLink RX10 (130 : Nat) "WonderParcelsModel" "onces" "[Z" ∈ gT := gT_t (List.mem_of_getElem? (i := 1165) (by decide +kernel)) (by decide +kernel)
theorem tw_1166 : Cond.fieldLink RX10 (246 : Nat) "WonderParcelsModel" "snapMany" "I" ∈ gT := gT_t (List.mem_of_getElem? (i := 1166) (by decide +kernel)) (by decide +kernel)
theorem tw_1167 : Cond.fieldLink RX10 (133 : Nat) "WonderParcelsModel" "was" "[I" ∈ gT := gT_t (List.mem_of_getElem? (i := 1167) (by decide +kernel)) (by decide +kernel)
theorem tw_1168 : Cond.fieldLink RX10 (136 : Nat) "WonderParcelsModel" "sitting" "I" ∈ gT := gT_t (List.mem_of_getElem? (i := 1168) (by decide +kernel)) (by decide +kernel)
theorem tw_1169 : Cond.fieldLink RX10 (139 : Nat) "WonderParcelsModel" "inSets" "[I" ∈ gT := gT_t (List.mem_of_getElem? (i := 1169) (by decide +kernel)) (by decide +kernel)
theorem tw_1170 : Cond.fieldLink RX10 (142 : Nat) "WonderParcelsModel" "surely" "I" ∈ gT := gT_t (List.mem_of_getElem? (i := 1170) (by decide +kernel)) (by decide +kernel)
theorem tw_1171 : Cond.fieldLink RX10 (145 : Nat) "WonderParcelsModel" "asking" "I" ∈ gT := gT_t (List.mem_of_getElem? (i := 1171) (by decide +kernel)) (by decide +kernel)
theorem tw_1172 : Cond.fieldLink RX10 (148 : Nat) "WonderParcelsModel" "placing" "[I" ∈ gT := gT_t (List.mem_of_getElem? (i := 1172) (by decide +kernel)) (by decide +kernel)
theorem tw_1173 : Cond.fieldLink RX10 (151 : Nat) "WonderParcelsModel" "placed" "[I" ∈ gT := gT_t (List.mem_of_getElem? (i := 1173) (by decide +kernel)) (by decide +kernel)
theorem tw_1176 : Cond.fieldLink RX10 (154 : Nat) "WonderParcelsModel" "rested" "[I" ∈ gT := gT_t (List.mem_of_getElem? (i := 1176) (by decide +kernel)) (by decide +kernel)
theorem tw_1178 : Cond.fieldLink RX10 (157 : Nat) "WonderParcelsModel" "text" "[I" ∈ gT := gT_t (List.mem_of_getElem? (i := 1178) (by decide +kernel)) (by decide +kernel)
theorem tw_1181 : Cond.fieldLink RX10 (160 : Nat) "WonderParcelsModel" "line" "[I" ∈ gT := gT_t (List.mem_of_getElem? (i := 1181) (by decide +kernel)) (by decide +kernel)
theorem tw_1182 : Cond.fieldLink RX10 (163 : Nat) "WonderParcelsModel" "written" "[I" ∈ gT := gT_t (List.mem_of_getElem? (i := 1182) (by decide +kernel)) (by decide +kernel)
theorem tw_1185 : Cond.fieldLink RX10 (166 : Nat) "WonderParcelsModel" "node" "[I" ∈ gT := gT_t (List.mem_of_getElem? (i := 1185) (by decide +kernel)) (by decide +kernel)
theorem tw_1289 : Cond.arrayClass Jvm.ClassFile.FieldType.boolean ∈ gT := gT_t (List.mem_of_getElem? (i := 1289) (by decide +kernel)) (by decide +kernel)
theorem tw_1298 : Cond.methodLink RX10 (89 : Nat) yX10_take ∈ gT := gT_t (List.mem_of_getElem? (i := 1298) (by decide +kernel)) (by decide +kernel)
theorem tw_1300 : Cond.instanceMethod yX10_take ∈ gT := gT_t (List.mem_of_getElem? (i := 1300) (by decide +kernel)) (by decide +kernel)
theorem tw_1301 : Cond.code yX10_take cX10_take 2 (some .int) ∈ gT := gT_t (List.mem_of_getElem? (i := 1301) (by decide +kernel)) (by decide +kernel)
theorem tw_1302 : Cond.methodLink RX10 (82 : Nat) yX10_go ∈ gT := gT_t (List.mem_of_getElem? (i := 1302) (by decide +kernel)) (by decide +kernel)
theorem tw_1304 : Cond.instanceMethod yX10_go ∈ gT := gT_t (List.mem_of_getElem? (i := 1304) (by decide +kernel)) (by decide +kernel)
theorem tw_1305 : Cond.code yX10_go cX10_go 5 none ∈ gT := gT_t (List.mem_of_getElem? (i := 1305) (by decide +kernel)) (by decide +kernel)
theorem tw_1322 : Cond.methodLink RX10 (206 : Nat) yX10_isWord ∈ gT := gT_t (List.mem_of_getElem? (i := 1322) (by decide +kernel)) (by decide +kernel)
theorem tw_1324 : Cond.instanceMethod yX10_isWord ∈ gT := gT_t (List.mem_of_getElem? (i := 1324) (by decide +kernel)) (by decide +kernel)
theorem tw_1325 : Cond.code yX10_isWord cX10_isWord 2 (some .boolean) ∈ gT := gT_t (List.mem_of_getElem? (i := 1325) (by decide +kernel)) (by decide +kernel)
theorem tw_1340 : Cond.methodLink RX10 (72 : Nat) yX10_bad ∈ gT := gT_t (List.mem_of_getElem? (i := 1340) (by decide +kernel)) (by decide +kernel)
theorem tw_1342 : Cond.instanceMethod yX10_bad ∈ gT := gT_t (List.mem_of_getElem? (i := 1342) (by decide +kernel)) (by decide +kernel)
theorem tw_1343 : Cond.code yX10_bad cX10_bad 2 (some .boolean) ∈ gT := gT_t (List.mem_of_getElem? (i := 1343) (by decide +kernel)) (by decide +kernel)
theorem tw_1363 : Cond.methodLink RX10 (75 : Nat) yX10_isIn ∈ gT := gT_t (List.mem_of_getElem? (i := 1363) (by decide +kernel)) (by decide +kernel)
theorem tw_1364 : Cond.static yX10_isIn ∈ gT := gT_t (List.mem_of_getElem? (i := 1364) (by decide +kernel)) (by decide +kernel)
theorem tw_1365 : Cond.code yX10_isIn cX10_isIn 3 (some .boolean) ∈ gT := gT_t (List.mem_of_getElem? (i := 1365) (by decide +kernel)) (by decide +kernel)
theorem tw_1417 : Cond.methodLink RX10 (86 : Nat) yX10_isSign ∈ gT := gT_t (List.mem_of_getElem? (i := 1417) (by decide +kernel)) (by decide +kernel)
theorem tw_1419 : Cond.instanceMethod yX10_isSign ∈ gT := gT_t (List.mem_of_getElem? (i := 1419) (by decide +kernel)) (by decide +kernel)
theorem tw_1420 : Cond.code yX10_isSign cX10_isSign 2 (some .boolean) ∈ gT := gT_t (List.mem_of_getElem? (i := 1420) (by decide +kernel)) (by decide +kernel)
theorem tw_1529 : Cond.methodLink RX10 (283 : Nat) yX10_least ∈ gT := gT_t (List.mem_of_getElem? (i := 1529) (by decide +kernel)) (by decide +kernel)
theorem tw_1530 : Cond.static yX10_least ∈ gT := gT_t (List.mem_of_getElem? (i := 1530) (by decide +kernel)) (by decide +kernel)
theorem tw_1531 : Cond.code yX10_least cX10_least 2 (some .int) ∈ gT := gT_t (List.mem_of_getElem? (i := 1531) (by decide +kernel)) (by decide +kernel)
theorem tw_1568 : Cond.methodLink RX10 (322 : Nat) yX10_oneDay ∈ gT := gT_t (List.mem_of_getElem? (i := 1568) (by decide +kernel)) (by decide +kernel)
theorem tw_1570 : Cond.instanceMethod yX10_oneDay ∈ gT := gT_t (List.mem_of_getElem? (i := 1570) (by decide +kernel)) (by decide +kernel)
theorem tw_1571 : Cond.code yX10_oneDay cX10_oneDay 2 none ∈ gT := gT_t (List.mem_of_getElem? (i := 1571) (by decide +kernel)) (by decide +kernel)
theorem tw_1759 : Cond.methodLink RX10 (428 : Nat) yX10_readAnd ∈ gT := gT_t (List.mem_of_getElem? (i := 1759) (by decide +kernel)) (by decide +kernel)
theorem tw_1761 : Cond.instanceMethod yX10_readAnd ∈ gT := gT_t (List.mem_of_getElem? (i := 1761) (by decide +kernel)) (by decide +kernel)
theorem tw_1762 : Cond.code yX10_readAnd cX10_readAnd 2 (some .boolean) ∈ gT := gT_t (List.mem_of_getElem? (i := 1762) (by decide +kernel)) (by decide +kernel)
theorem tw_1763 : Cond.methodLink RX10 (438 : Nat) yX10_readSaid ∈ gT := gT_t (List.mem_of_getElem? (i := 1763) (by decide +kernel)) (by decide +kernel)
theorem tw_1765 : Cond.instanceMethod yX10_readSaid ∈ gT := gT_t (List.mem_of_getElem? (i := 1765) (by decide +kernel)) (by decide +kernel)
theorem tw_1766 : Cond.code yX10_readSaid cX10_readSaid 4 (some .boolean) ∈ gT := gT_t (List.mem_of_getElem? (i := 1766) (by decide +kernel)) (by decide +kernel)
theorem ts_39 : Cond.selects RX10 yX10_take yX10_take ∈ gT := gT_s (by decide +kernel) (by decide +kernel)
theorem ts_40 : Cond.selects RX10 yX10_go yX10_go ∈ gT := gT_s (by decide +kernel) (by decide +kernel)
theorem ts_43 : Cond.selects RX10 yX10_isWord yX10_isWord ∈ gT := gT_s (by decide +kernel) (by decide +kernel)
theorem ts_46 : Cond.selects RX10 yX10_bad yX10_bad ∈ gT := gT_s (by decide +kernel) (by decide +kernel)
theorem ts_63 : Cond.selects RX10 yX10_isSign yX10_isSign ∈ gT := gT_s (by decide +kernel) (by decide +kernel)
theorem ts_85 : Cond.selects RX10 yX10_oneDay yX10_oneDay ∈ gT := gT_s (by decide +kernel) (by decide +kernel)
theorem ts_112 : Cond.selects RX10 yX10_readAnd yX10_readAnd ∈ gT := gT_s (by decide +kernel) (by decide +kernel)
theorem ts_113 : Cond.selects RX10 yX10_readSaid yX10_readSaid ∈ gT := gT_s (by decide +kernel) (by decide +kernel)
theorem dX10_bad_0 : decode cX10_bad 0 = .ok (.aload_n 0, 1) := by decide +kernel
theorem dX10_bad_1 : decode cX10_bad 1 = .ok (.aload_n 0, 1) := by decide +kernel
theorem dX10_bad_2 : decode cX10_bad 2 = .ok (.getfield 30, 3) := by decide +kernel
theorem dX10_bad_5 : decode cX10_bad 5 = .ok (.iconst 1, 1) := by decide +kernel
theorem dX10_bad_6 : decode cX10_bad 6 = .ok (.if_icmp .ne 7, 3) := by decide +kernel
theorem dX10_bad_13 : decode cX10_bad 13 = .ok (.iload_n 1, 1) := by decide +kernel
theorem dX10_bad_14 : decode cX10_bad 14 = .ok (.putfield 66, 3) := by decide +kernel
theorem dX10_bad_17 : decode cX10_bad 17 = .ok (.aload_n 0, 1) := by decide +kernel
theorem dX10_bad_18 : decode cX10_bad 18 = .ok (.aload_n 0, 1) := by decide +kernel
theorem dX10_bad_19 : decode cX10_bad 19 = .ok (.getfield 24, 3) := by decide +kernel
theorem dX10_bad_22 : decode cX10_bad 22 = .ok (.putfield 69, 3) := by decide +kernel
theorem dX10_bad_25 : decode cX10_bad 25 = .ok (.iconst 0, 1) := by decide +kernel
theorem dX10_bad_26 : decode cX10_bad 26 = .ok (.ireturn, 1) := by decide +kernel
theorem dX10_begin_0 : decode cX10_begin 0 = .ok (.aload_n 0, 1) := by decide +kernel
theorem dX10_begin_1 : decode cX10_begin 1 = .ok (.iconst 0, 1) := by decide +kernel
theorem dX10_begin_2 : decode cX10_begin 2 = .ok (.putfield 1, 3) := by decide +kernel
theorem dX10_begin_5 : decode cX10_begin 5 = .ok (.aload_n 0, 1) := by decide +kernel
theorem dX10_begin_6 : decode cX10_begin 6 = .ok (.aload_n 0, 1) := by decide +kernel
theorem dX10_begin_7 : decode cX10_begin 7 = .ok (.invokevirtual 89, 3) := by decide +kernel
theorem dX10_begin_10 : decode cX10_begin 10 = .ok (.putfield 18, 3) := by decide +kernel
theorem dX10_begin_13 : decode cX10_begin 13 = .ok (.aload_n 0, 1) := by decide +kernel
theorem dX10_begin_14 : decode cX10_begin 14 = .ok (.iload_n 1, 1) := by decide +kernel
theorem dX10_begin_15 : decode cX10_begin 15 = .ok (.putfield 27, 3) := by decide +kernel
theorem dX10_begin_18 : decode cX10_begin 18 = .ok (.aload_n 0, 1) := by decide +kernel
theorem dX10_begin_19 : decode cX10_begin 19 = .ok (.iconst 0, 1) := by decide +kernel
theorem dX10_begin_20 : decode cX10_begin 20 = .ok (.putfield 66, 3) := by decide +kernel
theorem dX10_begin_23 : decode cX10_begin 23 = .ok (.aload_n 0, 1) := by decide +kernel
theorem dX10_begin_24 : decode cX10_begin 24 = .ok (.iconst 0, 1) := by decide +kernel
theorem dX10_begin_25 : decode cX10_begin 25 = .ok (.putfield 21, 3) := by decide +kernel
theorem dX10_begin_28 : decode cX10_begin 28 = .ok (.aload_n 0, 1) := by decide +kernel
theorem dX10_begin_29 : decode cX10_begin 29 = .ok (.invokevirtual 82, 3) := by decide +kernel
theorem dX10_begin_32 : decode cX10_begin 32 = .ok (.return_, 1) := by decide +kernel
theorem dX10_come_0 : decode cX10_come 0 = .ok (.bipush 24, 2) := by decide +kernel
theorem dX10_come_2 : decode cX10_come 2 = .ok (.istore_n 2, 1) := by decide +kernel
theorem dX10_come_3 : decode cX10_come 3 = .ok (.iload_n 2, 1) := by decide +kernel
theorem dX10_come_4 : decode cX10_come 4 = .ok (.ifCond .lt 35, 3) := by decide +kernel
theorem dX10_come_7 : decode cX10_come 7 = .ok (.aload_n 0, 1) := by decide +kernel
theorem dX10_come_8 : decode cX10_come 8 = .ok (.getfield 7, 3) := by decide +kernel
theorem dX10_come_11 : decode cX10_come 11 = .ok (.aload_n 0, 1) := by decide +kernel
theorem dX10_come_12 : decode cX10_come 12 = .ok (.getfield 11, 3) := by decide +kernel
theorem dX10_come_15 : decode cX10_come 15 = .ok (.iload_n 1, 1) := by decide +kernel
theorem dX10_come_16 : decode cX10_come 16 = .ok (.iload_n 2, 1) := by decide +kernel
theorem dX10_come_17 : decode cX10_come 17 = .ok (.iushr, 1) := by decide +kernel
theorem dX10_come_18 : decode cX10_come 18 = .ok (.sipush 255, 3) := by decide +kernel
theorem dX10_come_21 : decode cX10_come 21 = .ok (.iand, 1) := by decide +kernel
theorem dX10_come_22 : decode cX10_come 22 = .ok (.iastore, 1) := by decide +kernel
theorem dX10_come_23 : decode cX10_come 23 = .ok (.aload_n 0, 1) := by decide +kernel
theorem dX10_come_24 : decode cX10_come 24 = .ok (.dup, 1) := by decide +kernel
theorem dX10_come_25 : decode cX10_come 25 = .ok (.getfield 11, 3) := by decide +kernel
theorem dX10_come_28 : decode cX10_come 28 = .ok (.iconst 1, 1) := by decide +kernel
theorem dX10_come_29 : decode cX10_come 29 = .ok (.iadd, 1) := by decide +kernel
theorem dX10_come_30 : decode cX10_come 30 = .ok (.putfield 11, 3) := by decide +kernel
theorem dX10_come_33 : decode cX10_come 33 = .ok (.iinc 2 (-8), 3) := by decide +kernel
theorem dX10_come_36 : decode cX10_come 36 = .ok (.goto (-33), 3) := by decide +kernel
theorem dX10_come_39 : decode cX10_come 39 = .ok (.return_, 1) := by decide +kernel
theorem dX10_go_0 : decode cX10_go 0 = .ok (.aload_n 0, 1) := by decide +kernel
theorem dX10_go_1 : decode cX10_go 1 = .ok (.getfield 21, 3) := by decide +kernel
theorem dX10_go_4 : decode cX10_go 4 = .ok (.aload_n 0, 1) := by decide +kernel
theorem dX10_go_5 : decode cX10_go 5 = .ok (.getfield 18, 3) := by decide +kernel
theorem dX10_go_8 : decode cX10_go 8 = .ok (.if_icmp .ge 44, 3) := by decide +kernel
theorem dX10_go_52 : decode cX10_go 52 = .ok (.aload_n 0, 1) := by decide +kernel
theorem dX10_go_53 : decode cX10_go 53 = .ok (.aload_n 0, 1) := by decide +kernel
theorem dX10_go_54 : decode cX10_go 54 = .ok (.getfield 21, 3) := by decide +kernel
theorem dX10_go_57 : decode cX10_go 57 = .ok (.putfield 24, 3) := by decide +kernel
theorem dX10_go_60 : decode cX10_go 60 = .ok (.aload_n 0, 1) := by decide +kernel
theorem dX10_go_61 : decode cX10_go 61 = .ok (.getfield 18, 3) := by decide +kernel
theorem dX10_go_64 : decode cX10_go 64 = .ok (.aload_n 0, 1) := by decide +kernel
theorem dX10_go_65 : decode cX10_go 65 = .ok (.getfield 27, 3) := by decide +kernel
theorem dX10_go_68 : decode cX10_go 68 = .ok (.if_icmp .le 28, 3) := by decide +kernel
theorem dX10_go_96 : decode cX10_go 96 = .ok (.aload_n 0, 1) := by decide +kernel
theorem dX10_go_97 : decode cX10_go 97 = .ok (.getfield 21, 3) := by decide +kernel
theorem dX10_go_100 : decode cX10_go 100 = .ok (.aload_n 0, 1) := by decide +kernel
theorem dX10_go_101 : decode cX10_go 101 = .ok (.getfield 18, 3) := by decide +kernel
theorem dX10_go_104 : decode cX10_go 104 = .ok (.if_icmp .lt 9, 3) := by decide +kernel
theorem dX10_go_107 : decode cX10_go 107 = .ok (.aload_n 0, 1) := by decide +kernel
theorem dX10_go_108 : decode cX10_go 108 = .ok (.iconst 0, 1) := by decide +kernel
theorem dX10_go_109 : decode cX10_go 109 = .ok (.putfield 30, 3) := by decide +kernel
theorem dX10_go_112 : decode cX10_go 112 = .ok (.return_, 1) := by decide +kernel
theorem dX10_init_0 : decode cX10_init 0 = .ok (.aload_n 0, 1) := by decide +kernel
theorem dX10_init_1 : decode cX10_init 1 = .ok (.invokespecial 93, 3) := by decide +kernel
theorem dX10_init_4 : decode cX10_init 4 = .ok (.aload_n 0, 1) := by decide +kernel
theorem dX10_init_5 : decode cX10_init 5 = .ok (.sipush 940, 3) := by decide +kernel
theorem dX10_init_8 : decode cX10_init 8 = .ok (.newarray .int, 2) := by decide +kernel
theorem dX10_init_10 : decode cX10_init 10 = .ok (.putfield 7, 3) := by decide +kernel
theorem dX10_init_13 : decode cX10_init 13 = .ok (.aload_n 0, 1) := by decide +kernel
theorem dX10_init_14 : decode cX10_init 14 = .ok (.sipush 414, 3) := by decide +kernel
theorem dX10_init_17 : decode cX10_init 17 = .ok (.newarray .int, 2) := by decide +kernel
theorem dX10_init_19 : decode cX10_init 19 = .ok (.putfield 98, 3) := by decide +kernel
theorem dX10_init_22 : decode cX10_init 22 = .ok (.aload_n 0, 1) := by decide +kernel
theorem dX10_init_23 : decode cX10_init 23 = .ok (.bipush 84, 2) := by decide +kernel
theorem dX10_init_25 : decode cX10_init 25 = .ok (.newarray .int, 2) := by decide +kernel
theorem dX10_init_27 : decode cX10_init 27 = .ok (.putfield 101, 3) := by decide +kernel
theorem dX10_init_30 : decode cX10_init 30 = .ok (.aload_n 0, 1) := by decide +kernel
theorem dX10_init_31 : decode cX10_init 31 = .ok (.sipush 828, 3) := by decide +kernel
theorem dX10_init_34 : decode cX10_init 34 = .ok (.newarray .int, 2) := by decide +kernel
theorem dX10_init_36 : decode cX10_init 36 = .ok (.putfield 104, 3) := by decide +kernel
theorem dX10_init_39 : decode cX10_init 39 = .ok (.aload_n 0, 1) := by decide +kernel
theorem dX10_init_40 : decode cX10_init 40 = .ok (.sipush 704, 3) := by decide +kernel
theorem dX10_init_43 : decode cX10_init 43 = .ok (.newarray .int, 2) := by decide +kernel
theorem dX10_init_45 : decode cX10_init 45 = .ok (.putfield 107, 3) := by decide +kernel
theorem dX10_init_48 : decode cX10_init 48 = .ok (.aload_n 0, 1) := by decide +kernel
theorem dX10_init_49 : decode cX10_init 49 = .ok (.bipush 88, 2) := by decide +kernel
theorem dX10_init_51 : decode cX10_init 51 = .ok (.newarray .int, 2) := by decide +kernel
theorem dX10_init_53 : decode cX10_init 53 = .ok (.putfield 110, 3) := by decide +kernel
theorem dX10_init_56 : decode cX10_init 56 = .ok (.aload_n 0, 1) := by decide +kernel
theorem dX10_init_57 : decode cX10_init 57 = .ok (.bipush 88, 2) := by decide +kernel
theorem dX10_init_59 : decode cX10_init 59 = .ok (.newarray .int, 2) := by decide +kernel
theorem dX10_init_61 : decode cX10_init 61 = .ok (.putfield 113, 3) := by decide +kernel
theorem dX10_init_64 : decode cX10_init 64 = .ok (.aload_n 0, 1) := by decide +kernel
theorem dX10_init_65 : decode cX10_init 65 = .ok (.bipush 24, 2) := by decide +kernel
theorem dX10_init_67 : decode cX10_init 67 = .ok (.newarray .long, 2) := by decide +kernel
theorem dX10_init_69 : decode cX10_init 69 = .ok (.putfield 116, 3) := by decide +kernel
theorem dX10_init_72 : decode cX10_init 72 = .ok (.aload_n 0, 1) := by decide +kernel
theorem dX10_init_73 : decode cX10_init 73 = .ok (.bipush 24, 2) := by decide +kernel
theorem dX10_init_75 : decode cX10_init 75 = .ok (.newarray .long, 2) := by decide +kernel
theorem dX10_init_77 : decode cX10_init 77 = .ok (.putfield 120, 3) := by decide +kernel
theorem dX10_init_80 : decode cX10_init 80 = .ok (.aload_n 0, 1) := by decide +kernel
theorem dX10_init_81 : decode cX10_init 81 = .ok (.bipush 48, 2) := by decide +kernel
theorem dX10_init_83 : decode cX10_init 83 = .ok (.newarray .long, 2) := by decide +kernel
theorem dX10_init_85 : decode cX10_init 85 = .ok (.putfield 123, 3) := by decide +kernel
theorem dX10_init_88 : decode cX10_init 88 = .ok (.aload_n 0, 1) := by decide +kernel
theorem dX10_init_89 : decode cX10_init 89 = .ok (.iconst 2, 1) := by decide +kernel
theorem dX10_init_90 : decode cX10_init 90 = .ok (.newarray .boolean, 2) := by decide +kernel
theorem dX10_init_92 : decode cX10_init 92 = .ok (.putfield 126, 3) := by decide +kernel
theorem dX10_init_95 : decode cX10_init 95 = .ok (.aload_n 0, 1) := by decide +kernel
theorem dX10_init_96 : decode cX10_init 96 = .ok (.iconst 2, 1) := by decide +kernel
theorem dX10_init_97 : decode cX10_init 97 = .ok (.newarray .boolean, 2) := by decide +kernel
theorem dX10_init_99 : decode cX10_init 99 = .ok (.putfield 130, 3) := by decide +kernel
theorem dX10_init_102 : decode cX10_init 102 = .ok (.aload_n 0, 1) := by decide +kernel
theorem dX10_init_103 : decode cX10_init 103 = .ok (.bipush 6, 2) := by decide +kernel
theorem dX10_init_105 : decode cX10_init 105 = .ok (.newarray .int, 2) := by decide +kernel
theorem dX10_init_107 : decode cX10_init 107 = .ok (.putfield 133, 3) := by decide +kernel
theorem dX10_init_110 : decode cX10_init 110 = .ok (.aload_n 0, 1) := by decide +kernel
theorem dX10_init_111 : decode cX10_init 111 = .ok (.iconst (-1), 1) := by decide +kernel
theorem dX10_init_112 : decode cX10_init 112 = .ok (.putfield 136, 3) := by decide +kernel
theorem dX10_init_115 : decode cX10_init 115 = .ok (.aload_n 0, 1) := by decide +kernel
theorem dX10_init_116 : decode cX10_init 116 = .ok (.bipush 8, 2) := by decide +kernel
theorem dX10_init_118 : decode cX10_init 118 = .ok (.newarray .int, 2) := by decide +kernel
theorem dX10_init_120 : decode cX10_init 120 = .ok (.putfield 139, 3) := by decide +kernel
theorem dX10_init_123 : decode cX10_init 123 = .ok (.aload_n 0, 1) := by decide +kernel
theorem dX10_init_124 : decode cX10_init 124 = .ok (.iconst (-1), 1) := by decide +kernel
theorem dX10_init_125 : decode cX10_init 125 = .ok (.putfield 142, 3) := by decide +kernel
theorem dX10_init_128 : decode cX10_init 128 = .ok (.aload_n 0, 1) := by decide +kernel
theorem dX10_init_129 : decode cX10_init 129 = .ok (.iconst (-1), 1) := by decide +kernel
theorem dX10_init_130 : decode cX10_init 130 = .ok (.putfield 145, 3) := by decide +kernel
theorem dX10_init_133 : decode cX10_init 133 = .ok (.aload_n 0, 1) := by decide +kernel
theorem dX10_init_134 : decode cX10_init 134 = .ok (.bipush 6, 2) := by decide +kernel
theorem dX10_init_136 : decode cX10_init 136 = .ok (.newarray .int, 2) := by decide +kernel
theorem dX10_init_138 : decode cX10_init 138 = .ok (.putfield 148, 3) := by decide +kernel
theorem dX10_init_141 : decode cX10_init 141 = .ok (.aload_n 0, 1) := by decide +kernel
theorem dX10_init_142 : decode cX10_init 142 = .ok (.bipush 6, 2) := by decide +kernel
theorem dX10_init_144 : decode cX10_init 144 = .ok (.newarray .int, 2) := by decide +kernel
theorem dX10_init_146 : decode cX10_init 146 = .ok (.putfield 151, 3) := by decide +kernel
theorem dX10_init_149 : decode cX10_init 149 = .ok (.aload_n 0, 1) := by decide +kernel
theorem dX10_init_150 : decode cX10_init 150 = .ok (.bipush 8, 2) := by decide +kernel
theorem dX10_init_152 : decode cX10_init 152 = .ok (.newarray .int, 2) := by decide +kernel
theorem dX10_init_154 : decode cX10_init 154 = .ok (.putfield 154, 3) := by decide +kernel
theorem dX10_init_157 : decode cX10_init 157 = .ok (.aload_n 0, 1) := by decide +kernel
theorem dX10_init_158 : decode cX10_init 158 = .ok (.bipush 64, 2) := by decide +kernel
theorem dX10_init_160 : decode cX10_init 160 = .ok (.newarray .int, 2) := by decide +kernel
theorem dX10_init_162 : decode cX10_init 162 = .ok (.putfield 157, 3) := by decide +kernel
theorem dX10_init_165 : decode cX10_init 165 = .ok (.aload_n 0, 1) := by decide +kernel
theorem dX10_init_166 : decode cX10_init 166 = .ok (.bipush 120, 2) := by decide +kernel
theorem dX10_init_168 : decode cX10_init 168 = .ok (.newarray .int, 2) := by decide +kernel
theorem dX10_init_170 : decode cX10_init 170 = .ok (.putfield 160, 3) := by decide +kernel
theorem dX10_init_173 : decode cX10_init 173 = .ok (.aload_n 0, 1) := by decide +kernel
theorem dX10_init_174 : decode cX10_init 174 = .ok (.iconst 4, 1) := by decide +kernel
theorem dX10_init_175 : decode cX10_init 175 = .ok (.newarray .int, 2) := by decide +kernel
theorem dX10_init_177 : decode cX10_init 177 = .ok (.putfield 163, 3) := by decide +kernel
theorem dX10_init_180 : decode cX10_init 180 = .ok (.aload_n 0, 1) := by decide +kernel
theorem dX10_init_181 : decode cX10_init 181 = .ok (.sipush 240, 3) := by decide +kernel
theorem dX10_init_184 : decode cX10_init 184 = .ok (.newarray .int, 2) := by decide +kernel
theorem dX10_init_186 : decode cX10_init 186 = .ok (.putfield 166, 3) := by decide +kernel
theorem dX10_init_189 : decode cX10_init 189 = .ok (.aload_n 0, 1) := by decide +kernel
theorem dX10_init_190 : decode cX10_init 190 = .ok (.getfield 98, 3) := by decide +kernel
theorem dX10_init_193 : decode cX10_init 193 = .ok (.iconst 5, 1) := by decide +kernel
theorem dX10_init_194 : decode cX10_init 194 = .ok (.iconst 5, 1) := by decide +kernel
theorem dX10_init_195 : decode cX10_init 195 = .ok (.iastore, 1) := by decide +kernel
theorem dX10_init_196 : decode cX10_init 196 = .ok (.return_, 1) := by decide +kernel
theorem dX10_isIdea_0 : decode cX10_isIdea 0 = .ok (.iload_n 1, 1) := by decide +kernel
theorem dX10_isIdea_1 : decode cX10_isIdea 1 = .ok (.iconst 0, 1) := by decide +kernel
theorem dX10_isIdea_2 : decode cX10_isIdea 2 = .ok (.aload_n 0, 1) := by decide +kernel
theorem dX10_isIdea_3 : decode cX10_isIdea 3 = .ok (.getfield 98, 3) := by decide +kernel
theorem dX10_isIdea_6 : decode cX10_isIdea 6 = .ok (.iconst 0, 1) := by decide +kernel
theorem dX10_isIdea_7 : decode cX10_isIdea 7 = .ok (.iaload, 1) := by decide +kernel
theorem dX10_isIdea_8 : decode cX10_isIdea 8 = .ok (.iconst 1, 1) := by decide +kernel
theorem dX10_isIdea_9 : decode cX10_isIdea 9 = .ok (.isub, 1) := by decide +kernel
theorem dX10_isIdea_10 : decode cX10_isIdea 10 = .ok (.invokestatic 75, 3) := by decide +kernel
theorem dX10_isIdea_13 : decode cX10_isIdea 13 = .ok (.ireturn, 1) := by decide +kernel
theorem dX10_isIn_0 : decode cX10_isIn 0 = .ok (.iload_n 0, 1) := by decide +kernel
theorem dX10_isIn_1 : decode cX10_isIn 1 = .ok (.iload_n 1, 1) := by decide +kernel
theorem dX10_isIn_2 : decode cX10_isIn 2 = .ok (.if_icmp .lt 12, 3) := by decide +kernel
theorem dX10_isIn_5 : decode cX10_isIn 5 = .ok (.iload_n 0, 1) := by decide +kernel
theorem dX10_isIn_6 : decode cX10_isIn 6 = .ok (.iload_n 2, 1) := by decide +kernel
theorem dX10_isIn_7 : decode cX10_isIn 7 = .ok (.if_icmp .gt 7, 3) := by decide +kernel
theorem dX10_isIn_10 : decode cX10_isIn 10 = .ok (.iconst 1, 1) := by decide +kernel
theorem dX10_isIn_11 : decode cX10_isIn 11 = .ok (.goto 4, 3) := by decide +kernel
theorem dX10_isIn_14 : decode cX10_isIn 14 = .ok (.iconst 0, 1) := by decide +kernel
theorem dX10_isIn_15 : decode cX10_isIn 15 = .ok (.ireturn, 1) := by decide +kernel
theorem dX10_isParcel_0 : decode cX10_isParcel 0 = .ok (.iload_n 1, 1) := by decide +kernel
theorem dX10_isParcel_1 : decode cX10_isParcel 1 = .ok (.iconst 0, 1) := by decide +kernel
theorem dX10_isParcel_2 : decode cX10_isParcel 2 = .ok (.aload_n 0, 1) := by decide +kernel
theorem dX10_isParcel_3 : decode cX10_isParcel 3 = .ok (.getfield 98, 3) := by decide +kernel
theorem dX10_isParcel_6 : decode cX10_isParcel 6 = .ok (.iconst 2, 1) := by decide +kernel
theorem dX10_isParcel_7 : decode cX10_isParcel 7 = .ok (.iaload, 1) := by decide +kernel
theorem dX10_isParcel_8 : decode cX10_isParcel 8 = .ok (.iconst 1, 1) := by decide +kernel
theorem dX10_isParcel_9 : decode cX10_isParcel 9 = .ok (.isub, 1) := by decide +kernel
theorem dX10_isParcel_10 : decode cX10_isParcel 10 = .ok (.invokestatic 75, 3) := by decide +kernel
theorem dX10_isParcel_13 : decode cX10_isParcel 13 = .ok (.ireturn, 1) := by decide +kernel
theorem dX10_isPerson_0 : decode cX10_isPerson 0 = .ok (.iload_n 1, 1) := by decide +kernel
theorem dX10_isPerson_1 : decode cX10_isPerson 1 = .ok (.iconst 0, 1) := by decide +kernel
theorem dX10_isPerson_2 : decode cX10_isPerson 2 = .ok (.aload_n 0, 1) := by decide +kernel
theorem dX10_isPerson_3 : decode cX10_isPerson 3 = .ok (.getfield 98, 3) := by decide +kernel
theorem dX10_isPerson_6 : decode cX10_isPerson 6 = .ok (.iconst 3, 1) := by decide +kernel
theorem dX10_isPerson_7 : decode cX10_isPerson 7 = .ok (.iaload, 1) := by decide +kernel
theorem dX10_isPerson_8 : decode cX10_isPerson 8 = .ok (.iconst 1, 1) := by decide +kernel
theorem dX10_isPerson_9 : decode cX10_isPerson 9 = .ok (.isub, 1) := by decide +kernel
theorem dX10_isPerson_10 : decode cX10_isPerson 10 = .ok (.invokestatic 75, 3) := by decide +kernel
theorem dX10_isPerson_13 : decode cX10_isPerson 13 = .ok (.ireturn, 1) := by decide +kernel
theorem dX10_isRoom_0 : decode cX10_isRoom 0 = .ok (.iload_n 1, 1) := by decide +kernel
theorem dX10_isRoom_1 : decode cX10_isRoom 1 = .ok (.iconst 0, 1) := by decide +kernel
theorem dX10_isRoom_2 : decode cX10_isRoom 2 = .ok (.aload_n 0, 1) := by decide +kernel
theorem dX10_isRoom_3 : decode cX10_isRoom 3 = .ok (.getfield 98, 3) := by decide +kernel
theorem dX10_isRoom_6 : decode cX10_isRoom 6 = .ok (.iconst 1, 1) := by decide +kernel
theorem dX10_isRoom_7 : decode cX10_isRoom 7 = .ok (.iaload, 1) := by decide +kernel
theorem dX10_isRoom_8 : decode cX10_isRoom 8 = .ok (.iconst 1, 1) := by decide +kernel
theorem dX10_isRoom_9 : decode cX10_isRoom 9 = .ok (.isub, 1) := by decide +kernel
theorem dX10_isRoom_10 : decode cX10_isRoom 10 = .ok (.invokestatic 75, 3) := by decide +kernel
theorem dX10_isRoom_13 : decode cX10_isRoom 13 = .ok (.ireturn, 1) := by decide +kernel
theorem dX10_isSign_0 : decode cX10_isSign 0 = .ok (.aload_n 0, 1) := by decide +kernel
theorem dX10_isSign_1 : decode cX10_isSign 1 = .ok (.getfield 30, 3) := by decide +kernel
theorem dX10_isSign_4 : decode cX10_isSign 4 = .ok (.iconst 4, 1) := by decide +kernel
theorem dX10_isSign_5 : decode cX10_isSign 5 = .ok (.if_icmp .ne 15, 3) := by decide +kernel
theorem dX10_isSign_20 : decode cX10_isSign 20 = .ok (.iconst 0, 1) := by decide +kernel
theorem dX10_isSign_21 : decode cX10_isSign 21 = .ok (.ireturn, 1) := by decide +kernel
theorem dX10_isWord_0 : decode cX10_isWord 0 = .ok (.aload_n 0, 1) := by decide +kernel
theorem dX10_isWord_1 : decode cX10_isWord 1 = .ok (.getfield 30, 3) := by decide +kernel
theorem dX10_isWord_4 : decode cX10_isWord 4 = .ok (.iconst 2, 1) := by decide +kernel
theorem dX10_isWord_5 : decode cX10_isWord 5 = .ok (.if_icmp .ne 19, 3) := by decide +kernel
theorem dX10_isWord_24 : decode cX10_isWord 24 = .ok (.iconst 0, 1) := by decide +kernel
theorem dX10_isWord_25 : decode cX10_isWord 25 = .ok (.ireturn, 1) := by decide +kernel
theorem dX10_layAside_0 : decode cX10_layAside 0 = .ok (.iconst 0, 1) := by decide +kernel
theorem dX10_layAside_1 : decode cX10_layAside 1 = .ok (.istore_n 1, 1) := by decide +kernel
theorem dX10_layAside_2 : decode cX10_layAside 2 = .ok (.iload_n 1, 1) := by decide +kernel
theorem dX10_layAside_3 : decode cX10_layAside 3 = .ok (.bipush 88, 2) := by decide +kernel
theorem dX10_layAside_5 : decode cX10_layAside 5 = .ok (.if_icmp .ge 24, 3) := by decide +kernel
theorem dX10_layAside_8 : decode cX10_layAside 8 = .ok (.aload_n 0, 1) := by decide +kernel
theorem dX10_layAside_9 : decode cX10_layAside 9 = .ok (.getfield 110, 3) := by decide +kernel
theorem dX10_layAside_12 : decode cX10_layAside 12 = .ok (.iload_n 1, 1) := by decide +kernel
theorem dX10_layAside_13 : decode cX10_layAside 13 = .ok (.aload_n 0, 1) := by decide +kernel
theorem dX10_layAside_14 : decode cX10_layAside 14 = .ok (.getfield 98, 3) := by decide +kernel
theorem dX10_layAside_17 : decode cX10_layAside 17 = .ok (.bipush 84, 2) := by decide +kernel
theorem dX10_layAside_19 : decode cX10_layAside 19 = .ok (.iload_n 1, 1) := by decide +kernel
theorem dX10_layAside_20 : decode cX10_layAside 20 = .ok (.iadd, 1) := by decide +kernel
theorem dX10_layAside_21 : decode cX10_layAside 21 = .ok (.iaload, 1) := by decide +kernel
theorem dX10_layAside_22 : decode cX10_layAside 22 = .ok (.iastore, 1) := by decide +kernel
theorem dX10_layAside_23 : decode cX10_layAside 23 = .ok (.iinc 1 1, 3) := by decide +kernel
theorem dX10_layAside_26 : decode cX10_layAside 26 = .ok (.goto (-24), 3) := by decide +kernel
theorem dX10_layAside_29 : decode cX10_layAside 29 = .ok (.return_, 1) := by decide +kernel
theorem dX10_least_0 : decode cX10_least 0 = .ok (.iload_n 0, 1) := by decide +kernel
theorem dX10_least_1 : decode cX10_least 1 = .ok (.iload_n 1, 1) := by decide +kernel
theorem dX10_least_2 : decode cX10_least 2 = .ok (.if_icmp .ge 7, 3) := by decide +kernel
theorem dX10_least_5 : decode cX10_least 5 = .ok (.iload_n 0, 1) := by decide +kernel
theorem dX10_least_6 : decode cX10_least 6 = .ok (.goto 4, 3) := by decide +kernel
theorem dX10_least_10 : decode cX10_least 10 = .ok (.ireturn, 1) := by decide +kernel
theorem dX10_nothings_0 : decode cX10_nothings 0 = .ok (.iconst 0, 1) := by decide +kernel
theorem dX10_nothings_1 : decode cX10_nothings 1 = .ok (.istore_n 1, 1) := by decide +kernel
theorem dX10_nothings_2 : decode cX10_nothings 2 = .ok (.iconst 0, 1) := by decide +kernel
theorem dX10_nothings_3 : decode cX10_nothings 3 = .ok (.istore_n 2, 1) := by decide +kernel
theorem dX10_nothings_4 : decode cX10_nothings 4 = .ok (.iload_n 2, 1) := by decide +kernel
theorem dX10_nothings_5 : decode cX10_nothings 5 = .ok (.aload_n 0, 1) := by decide +kernel
theorem dX10_nothings_6 : decode cX10_nothings 6 = .ok (.getfield 98, 3) := by decide +kernel
theorem dX10_nothings_9 : decode cX10_nothings 9 = .ok (.iconst 2, 1) := by decide +kernel
theorem dX10_nothings_10 : decode cX10_nothings 10 = .ok (.iaload, 1) := by decide +kernel
theorem dX10_nothings_11 : decode cX10_nothings 11 = .ok (.if_icmp .ge 24, 3) := by decide +kernel
theorem dX10_nothings_35 : decode cX10_nothings 35 = .ok (.iload_n 1, 1) := by decide +kernel
theorem dX10_nothings_36 : decode cX10_nothings 36 = .ok (.ireturn, 1) := by decide +kernel
theorem dX10_oneDay_0 : decode cX10_oneDay 0 = .ok (.iconst 0, 1) := by decide +kernel
theorem dX10_oneDay_1 : decode cX10_oneDay 1 = .ok (.istore_n 1, 1) := by decide +kernel
theorem dX10_oneDay_2 : decode cX10_oneDay 2 = .ok (.iload_n 1, 1) := by decide +kernel
theorem dX10_oneDay_3 : decode cX10_oneDay 3 = .ok (.aload_n 0, 1) := by decide +kernel
theorem dX10_oneDay_4 : decode cX10_oneDay 4 = .ok (.getfield 98, 3) := by decide +kernel
theorem dX10_oneDay_7 : decode cX10_oneDay 7 = .ok (.iconst 2, 1) := by decide +kernel
theorem dX10_oneDay_8 : decode cX10_oneDay 8 = .ok (.iaload, 1) := by decide +kernel
theorem dX10_oneDay_9 : decode cX10_oneDay 9 = .ok (.if_icmp .ge 20, 3) := by decide +kernel
theorem dX10_oneDay_29 : decode cX10_oneDay 29 = .ok (.iconst 0, 1) := by decide +kernel
theorem dX10_oneDay_30 : decode cX10_oneDay 30 = .ok (.istore_n 1, 1) := by decide +kernel
theorem dX10_oneDay_31 : decode cX10_oneDay 31 = .ok (.iload_n 1, 1) := by decide +kernel
theorem dX10_oneDay_32 : decode cX10_oneDay 32 = .ok (.aload_n 0, 1) := by decide +kernel
theorem dX10_oneDay_33 : decode cX10_oneDay 33 = .ok (.getfield 98, 3) := by decide +kernel
theorem dX10_oneDay_36 : decode cX10_oneDay 36 = .ok (.iconst 3, 1) := by decide +kernel
theorem dX10_oneDay_37 : decode cX10_oneDay 37 = .ok (.iaload, 1) := by decide +kernel
theorem dX10_oneDay_38 : decode cX10_oneDay 38 = .ok (.if_icmp .ge 14, 3) := by decide +kernel
theorem dX10_oneDay_52 : decode cX10_oneDay 52 = .ok (.iconst 0, 1) := by decide +kernel
theorem dX10_oneDay_53 : decode cX10_oneDay 53 = .ok (.istore_n 1, 1) := by decide +kernel
theorem dX10_oneDay_54 : decode cX10_oneDay 54 = .ok (.iload_n 1, 1) := by decide +kernel
theorem dX10_oneDay_55 : decode cX10_oneDay 55 = .ok (.aload_n 0, 1) := by decide +kernel
theorem dX10_oneDay_56 : decode cX10_oneDay 56 = .ok (.getfield 98, 3) := by decide +kernel
theorem dX10_oneDay_59 : decode cX10_oneDay 59 = .ok (.iconst 2, 1) := by decide +kernel
theorem dX10_oneDay_60 : decode cX10_oneDay 60 = .ok (.iaload, 1) := by decide +kernel
theorem dX10_oneDay_61 : decode cX10_oneDay 61 = .ok (.if_icmp .ge 81, 3) := by decide +kernel
theorem dX10_oneDay_142 : decode cX10_oneDay 142 = .ok (.aload_n 0, 1) := by decide +kernel
theorem dX10_oneDay_143 : decode cX10_oneDay 143 = .ok (.getfield 98, 3) := by decide +kernel
theorem dX10_oneDay_146 : decode cX10_oneDay 146 = .ok (.bipush 84, 2) := by decide +kernel
theorem dX10_oneDay_148 : decode cX10_oneDay 148 = .ok (.dup2, 1) := by decide +kernel
theorem dX10_oneDay_149 : decode cX10_oneDay 149 = .ok (.iaload, 1) := by decide +kernel
theorem dX10_oneDay_150 : decode cX10_oneDay 150 = .ok (.iconst 1, 1) := by decide +kernel
theorem dX10_oneDay_151 : decode cX10_oneDay 151 = .ok (.iadd, 1) := by decide +kernel
theorem dX10_oneDay_152 : decode cX10_oneDay 152 = .ok (.iastore, 1) := by decide +kernel
theorem dX10_oneDay_153 : decode cX10_oneDay 153 = .ok (.return_, 1) := by decide +kernel
theorem dX10_passDays_0 : decode cX10_passDays 0 = .ok (.iload_n 1, 1) := by decide +kernel
theorem dX10_passDays_1 : decode cX10_passDays 1 = .ok (.sipush 400, 3) := by decide +kernel
theorem dX10_passDays_4 : decode cX10_passDays 4 = .ok (.aload_n 0, 1) := by decide +kernel
theorem dX10_passDays_5 : decode cX10_passDays 5 = .ok (.getfield 98, 3) := by decide +kernel
theorem dX10_passDays_8 : decode cX10_passDays 8 = .ok (.bipush 84, 2) := by decide +kernel
theorem dX10_passDays_10 : decode cX10_passDays 10 = .ok (.iaload, 1) := by decide +kernel
theorem dX10_passDays_11 : decode cX10_passDays 11 = .ok (.isub, 1) := by decide +kernel
theorem dX10_passDays_12 : decode cX10_passDays 12 = .ok (.invokestatic 283, 3) := by decide +kernel
theorem dX10_passDays_15 : decode cX10_passDays 15 = .ok (.istore_n 2, 1) := by decide +kernel
theorem dX10_passDays_16 : decode cX10_passDays 16 = .ok (.iconst 0, 1) := by decide +kernel
theorem dX10_passDays_17 : decode cX10_passDays 17 = .ok (.istore_n 3, 1) := by decide +kernel
theorem dX10_passDays_18 : decode cX10_passDays 18 = .ok (.iload_n 3, 1) := by decide +kernel
theorem dX10_passDays_19 : decode cX10_passDays 19 = .ok (.iload_n 2, 1) := by decide +kernel
theorem dX10_passDays_20 : decode cX10_passDays 20 = .ok (.if_icmp .ge 13, 3) := by decide +kernel
theorem dX10_passDays_23 : decode cX10_passDays 23 = .ok (.aload_n 0, 1) := by decide +kernel
theorem dX10_passDays_24 : decode cX10_passDays 24 = .ok (.invokevirtual 322, 3) := by decide +kernel
theorem dX10_passDays_27 : decode cX10_passDays 27 = .ok (.iinc 3 1, 3) := by decide +kernel
theorem dX10_passDays_30 : decode cX10_passDays 30 = .ok (.goto (-12), 3) := by decide +kernel
theorem dX10_passDays_33 : decode cX10_passDays 33 = .ok (.iload_n 2, 1) := by decide +kernel
theorem dX10_passDays_34 : decode cX10_passDays 34 = .ok (.ireturn, 1) := by decide +kernel
theorem dX10_placeFrom_0 : decode cX10_placeFrom 0 = .ok (.iload_n 1, 1) := by decide +kernel
theorem dX10_placeFrom_1 : decode cX10_placeFrom 1 = .ok (.aload_n 0, 1) := by decide +kernel
theorem dX10_placeFrom_2 : decode cX10_placeFrom 2 = .ok (.getfield 98, 3) := by decide +kernel
theorem dX10_placeFrom_5 : decode cX10_placeFrom 5 = .ok (.iconst 2, 1) := by decide +kernel
theorem dX10_placeFrom_6 : decode cX10_placeFrom 6 = .ok (.iaload, 1) := by decide +kernel
theorem dX10_placeFrom_7 : decode cX10_placeFrom 7 = .ok (.if_icmp .ne 5, 3) := by decide +kernel
theorem dX10_placeFrom_10 : decode cX10_placeFrom 10 = .ok (.iconst 1, 1) := by decide +kernel
theorem dX10_placeFrom_11 : decode cX10_placeFrom 11 = .ok (.ireturn, 1) := by decide +kernel
theorem dX10_readAnd_0 : decode cX10_readAnd 0 = .ok (.aload_n 0, 1) := by decide +kernel
theorem dX10_readAnd_1 : decode cX10_readAnd 1 = .ok (.invokevirtual 438, 3) := by decide +kernel
theorem dX10_readAnd_4 : decode cX10_readAnd 4 = .ok (.ifCond .ne 5, 3) := by decide +kernel
theorem dX10_readAnd_7 : decode cX10_readAnd 7 = .ok (.iconst 0, 1) := by decide +kernel
theorem dX10_readAnd_8 : decode cX10_readAnd 8 = .ok (.ireturn, 1) := by decide +kernel
theorem dX10_readOr_0 : decode cX10_readOr 0 = .ok (.aload_n 0, 1) := by decide +kernel
theorem dX10_readOr_1 : decode cX10_readOr 1 = .ok (.invokevirtual 428, 3) := by decide +kernel
theorem dX10_readOr_4 : decode cX10_readOr 4 = .ok (.ifCond .ne 5, 3) := by decide +kernel
theorem dX10_readOr_7 : decode cX10_readOr 7 = .ok (.iconst 0, 1) := by decide +kernel
theorem dX10_readOr_8 : decode cX10_readOr 8 = .ok (.ireturn, 1) := by decide +kernel
theorem dX10_readSaid_0 : decode cX10_readSaid 0 = .ok (.aload_n 0, 1) := by decide +kernel
theorem dX10_readSaid_1 : decode cX10_readSaid 1 = .ok (.bipush 40, 2) := by decide +kernel
theorem dX10_readSaid_3 : decode cX10_readSaid 3 = .ok (.invokevirtual 86, 3) := by decide +kernel
theorem dX10_readSaid_6 : decode cX10_readSaid 6 = .ok (.istore_n 1, 1) := by decide +kernel
theorem dX10_readSaid_7 : decode cX10_readSaid 7 = .ok (.bipush 18, 2) := by decide +kernel
theorem dX10_readSaid_9 : decode cX10_readSaid 9 = .ok (.istore_n 2, 1) := by decide +kernel
theorem dX10_readSaid_10 : decode cX10_readSaid 10 = .ok (.iload_n 2, 1) := by decide +kernel
theorem dX10_readSaid_11 : decode cX10_readSaid 11 = .ok (.bipush 27, 2) := by decide +kernel
theorem dX10_readSaid_13 : decode cX10_readSaid 13 = .ok (.if_icmp .gt 17, 3) := by decide +kernel
theorem dX10_readSaid_16 : decode cX10_readSaid 16 = .ok (.aload_n 0, 1) := by decide +kernel
theorem dX10_readSaid_17 : decode cX10_readSaid 17 = .ok (.iload_n 2, 1) := by decide +kernel
theorem dX10_readSaid_18 : decode cX10_readSaid 18 = .ok (.invokevirtual 206, 3) := by decide +kernel
theorem dX10_readSaid_21 : decode cX10_readSaid 21 = .ok (.ifCond .ne 9, 3) := by decide +kernel
theorem dX10_readSaid_24 : decode cX10_readSaid 24 = .ok (.iinc 2 1, 3) := by decide +kernel
theorem dX10_readSaid_27 : decode cX10_readSaid 27 = .ok (.goto (-17), 3) := by decide +kernel
theorem dX10_readSaid_30 : decode cX10_readSaid 30 = .ok (.iload_n 1, 1) := by decide +kernel
theorem dX10_readSaid_31 : decode cX10_readSaid 31 = .ok (.ifCond .ne 15, 3) := by decide +kernel
theorem dX10_readSaid_34 : decode cX10_readSaid 34 = .ok (.iload_n 2, 1) := by decide +kernel
theorem dX10_readSaid_35 : decode cX10_readSaid 35 = .ok (.bipush 27, 2) := by decide +kernel
theorem dX10_readSaid_37 : decode cX10_readSaid 37 = .ok (.if_icmp .le 9, 3) := by decide +kernel
theorem dX10_readSaid_40 : decode cX10_readSaid 40 = .ok (.aload_n 0, 1) := by decide +kernel
theorem dX10_readSaid_41 : decode cX10_readSaid 41 = .ok (.iconst 1, 1) := by decide +kernel
theorem dX10_readSaid_42 : decode cX10_readSaid 42 = .ok (.invokevirtual 72, 3) := by decide +kernel
theorem dX10_readSaid_45 : decode cX10_readSaid 45 = .ok (.ireturn, 1) := by decide +kernel
theorem dX10_refuse_0 : decode cX10_refuse 0 = .ok (.aload_n 0, 1) := by decide +kernel
theorem dX10_refuse_1 : decode cX10_refuse 1 = .ok (.iconst 1, 1) := by decide +kernel
theorem dX10_refuse_2 : decode cX10_refuse 2 = .ok (.putfield 1, 3) := by decide +kernel
theorem dX10_refuse_5 : decode cX10_refuse 5 = .ok (.iconst 0, 1) := by decide +kernel
theorem dX10_refuse_6 : decode cX10_refuse 6 = .ok (.ireturn, 1) := by decide +kernel
theorem dX10_snap_0 : decode cX10_snap 0 = .ok (.aload_n 0, 1) := by decide +kernel
theorem dX10_snap_1 : decode cX10_snap 1 = .ok (.getfield 246, 3) := by decide +kernel
theorem dX10_snap_4 : decode cX10_snap 4 = .ok (.bipush 8, 2) := by decide +kernel
theorem dX10_snap_6 : decode cX10_snap 6 = .ok (.if_icmp .ne 43, 3) := by decide +kernel
theorem dX10_snap_49 : decode cX10_snap 49 = .ok (.iconst 0, 1) := by decide +kernel
theorem dX10_snap_50 : decode cX10_snap 50 = .ok (.istore_n 1, 1) := by decide +kernel
theorem dX10_snap_51 : decode cX10_snap 51 = .ok (.iload_n 1, 1) := by decide +kernel
theorem dX10_snap_52 : decode cX10_snap 52 = .ok (.bipush 88, 2) := by decide +kernel
theorem dX10_snap_54 : decode cX10_snap 54 = .ok (.if_icmp .ge 32, 3) := by decide +kernel
theorem dX10_snap_57 : decode cX10_snap 57 = .ok (.aload_n 0, 1) := by decide +kernel
theorem dX10_snap_58 : decode cX10_snap 58 = .ok (.getfield 107, 3) := by decide +kernel
theorem dX10_snap_61 : decode cX10_snap 61 = .ok (.bipush 88, 2) := by decide +kernel
theorem dX10_snap_63 : decode cX10_snap 63 = .ok (.aload_n 0, 1) := by decide +kernel
theorem dX10_snap_64 : decode cX10_snap 64 = .ok (.getfield 246, 3) := by decide +kernel
theorem dX10_snap_67 : decode cX10_snap 67 = .ok (.imul, 1) := by decide +kernel
theorem dX10_snap_68 : decode cX10_snap 68 = .ok (.iload_n 1, 1) := by decide +kernel
theorem dX10_snap_69 : decode cX10_snap 69 = .ok (.iadd, 1) := by decide +kernel
theorem dX10_snap_70 : decode cX10_snap 70 = .ok (.aload_n 0, 1) := by decide +kernel
theorem dX10_snap_71 : decode cX10_snap 71 = .ok (.getfield 98, 3) := by decide +kernel
theorem dX10_snap_74 : decode cX10_snap 74 = .ok (.bipush 84, 2) := by decide +kernel
theorem dX10_snap_76 : decode cX10_snap 76 = .ok (.iload_n 1, 1) := by decide +kernel
theorem dX10_snap_77 : decode cX10_snap 77 = .ok (.iadd, 1) := by decide +kernel
theorem dX10_snap_78 : decode cX10_snap 78 = .ok (.iaload, 1) := by decide +kernel
theorem dX10_snap_79 : decode cX10_snap 79 = .ok (.iastore, 1) := by decide +kernel
theorem dX10_snap_80 : decode cX10_snap 80 = .ok (.iinc 1 1, 3) := by decide +kernel
theorem dX10_snap_83 : decode cX10_snap 83 = .ok (.goto (-32), 3) := by decide +kernel
theorem dX10_snap_86 : decode cX10_snap 86 = .ok (.aload_n 0, 1) := by decide +kernel
theorem dX10_snap_87 : decode cX10_snap 87 = .ok (.dup, 1) := by decide +kernel
theorem dX10_snap_88 : decode cX10_snap 88 = .ok (.getfield 246, 3) := by decide +kernel
theorem dX10_snap_91 : decode cX10_snap 91 = .ok (.iconst 1, 1) := by decide +kernel
theorem dX10_snap_92 : decode cX10_snap 92 = .ok (.iadd, 1) := by decide +kernel
theorem dX10_snap_93 : decode cX10_snap 93 = .ok (.putfield 246, 3) := by decide +kernel
theorem dX10_snap_96 : decode cX10_snap 96 = .ok (.return_, 1) := by decide +kernel
theorem dX10_startSo_0 : decode cX10_startSo 0 = .ok (.bipush 84, 2) := by decide +kernel
theorem dX10_startSo_2 : decode cX10_startSo 2 = .ok (.istore_n 1, 1) := by decide +kernel
theorem dX10_startSo_3 : decode cX10_startSo 3 = .ok (.iload_n 1, 1) := by decide +kernel
theorem dX10_startSo_4 : decode cX10_startSo 4 = .ok (.sipush 414, 3) := by decide +kernel
theorem dX10_startSo_7 : decode cX10_startSo 7 = .ok (.if_icmp .ge 16, 3) := by decide +kernel
theorem dX10_startSo_10 : decode cX10_startSo 10 = .ok (.aload_n 0, 1) := by decide +kernel
theorem dX10_startSo_11 : decode cX10_startSo 11 = .ok (.getfield 98, 3) := by decide +kernel
theorem dX10_startSo_14 : decode cX10_startSo 14 = .ok (.iload_n 1, 1) := by decide +kernel
theorem dX10_startSo_15 : decode cX10_startSo 15 = .ok (.iconst 0, 1) := by decide +kernel
theorem dX10_startSo_16 : decode cX10_startSo 16 = .ok (.iastore, 1) := by decide +kernel
theorem dX10_startSo_17 : decode cX10_startSo 17 = .ok (.iinc 1 1, 3) := by decide +kernel
theorem dX10_startSo_20 : decode cX10_startSo 20 = .ok (.goto (-17), 3) := by decide +kernel
theorem dX10_startSo_23 : decode cX10_startSo 23 = .ok (.iconst 0, 1) := by decide +kernel
theorem dX10_startSo_24 : decode cX10_startSo 24 = .ok (.istore_n 1, 1) := by decide +kernel
theorem dX10_startSo_25 : decode cX10_startSo 25 = .ok (.iload_n 1, 1) := by decide +kernel
theorem dX10_startSo_26 : decode cX10_startSo 26 = .ok (.bipush 6, 2) := by decide +kernel
theorem dX10_startSo_28 : decode cX10_startSo 28 = .ok (.if_icmp .ge 27, 3) := by decide +kernel
theorem dX10_startSo_31 : decode cX10_startSo 31 = .ok (.aload_n 0, 1) := by decide +kernel
theorem dX10_startSo_32 : decode cX10_startSo 32 = .ok (.getfield 98, 3) := by decide +kernel
theorem dX10_startSo_35 : decode cX10_startSo 35 = .ok (.bipush 86, 2) := by decide +kernel
theorem dX10_startSo_37 : decode cX10_startSo 37 = .ok (.iload_n 1, 1) := by decide +kernel
theorem dX10_startSo_38 : decode cX10_startSo 38 = .ok (.iadd, 1) := by decide +kernel
theorem dX10_startSo_39 : decode cX10_startSo 39 = .ok (.aload_n 0, 1) := by decide +kernel
theorem dX10_startSo_40 : decode cX10_startSo 40 = .ok (.getfield 98, 3) := by decide +kernel
theorem dX10_startSo_43 : decode cX10_startSo 43 = .ok (.bipush 18, 2) := by decide +kernel
theorem dX10_startSo_45 : decode cX10_startSo 45 = .ok (.iload_n 1, 1) := by decide +kernel
theorem dX10_startSo_46 : decode cX10_startSo 46 = .ok (.iadd, 1) := by decide +kernel
theorem dX10_startSo_47 : decode cX10_startSo 47 = .ok (.iaload, 1) := by decide +kernel
theorem dX10_startSo_48 : decode cX10_startSo 48 = .ok (.iastore, 1) := by decide +kernel
theorem dX10_startSo_49 : decode cX10_startSo 49 = .ok (.iinc 1 1, 3) := by decide +kernel
theorem dX10_startSo_52 : decode cX10_startSo 52 = .ok (.goto (-27), 3) := by decide +kernel
theorem dX10_startSo_55 : decode cX10_startSo 55 = .ok (.iconst 0, 1) := by decide +kernel
theorem dX10_startSo_56 : decode cX10_startSo 56 = .ok (.istore_n 1, 1) := by decide +kernel
theorem dX10_startSo_57 : decode cX10_startSo 57 = .ok (.iload_n 1, 1) := by decide +kernel
theorem dX10_startSo_58 : decode cX10_startSo 58 = .ok (.bipush 8, 2) := by decide +kernel
theorem dX10_startSo_60 : decode cX10_startSo 60 = .ok (.if_icmp .ge 45, 3) := by decide +kernel
theorem dX10_startSo_63 : decode cX10_startSo 63 = .ok (.aload_n 0, 1) := by decide +kernel
theorem dX10_startSo_64 : decode cX10_startSo 64 = .ok (.getfield 98, 3) := by decide +kernel
theorem dX10_startSo_67 : decode cX10_startSo 67 = .ok (.bipush 104, 2) := by decide +kernel
theorem dX10_startSo_69 : decode cX10_startSo 69 = .ok (.iload_n 1, 1) := by decide +kernel
theorem dX10_startSo_70 : decode cX10_startSo 70 = .ok (.iadd, 1) := by decide +kernel
theorem dX10_startSo_71 : decode cX10_startSo 71 = .ok (.aload_n 0, 1) := by decide +kernel
theorem dX10_startSo_72 : decode cX10_startSo 72 = .ok (.getfield 98, 3) := by decide +kernel
theorem dX10_startSo_75 : decode cX10_startSo 75 = .ok (.bipush 24, 2) := by decide +kernel
theorem dX10_startSo_77 : decode cX10_startSo 77 = .ok (.iload_n 1, 1) := by decide +kernel
theorem dX10_startSo_78 : decode cX10_startSo 78 = .ok (.iadd, 1) := by decide +kernel
theorem dX10_startSo_79 : decode cX10_startSo 79 = .ok (.iaload, 1) := by decide +kernel
theorem dX10_startSo_80 : decode cX10_startSo 80 = .ok (.iastore, 1) := by decide +kernel
theorem dX10_startSo_81 : decode cX10_startSo 81 = .ok (.aload_n 0, 1) := by decide +kernel
theorem dX10_startSo_82 : decode cX10_startSo 82 = .ok (.getfield 98, 3) := by decide +kernel
theorem dX10_startSo_85 : decode cX10_startSo 85 = .ok (.bipush 112, 2) := by decide +kernel
theorem dX10_startSo_87 : decode cX10_startSo 87 = .ok (.iload_n 1, 1) := by decide +kernel
theorem dX10_startSo_88 : decode cX10_startSo 88 = .ok (.iadd, 1) := by decide +kernel
theorem dX10_startSo_89 : decode cX10_startSo 89 = .ok (.aload_n 0, 1) := by decide +kernel
theorem dX10_startSo_90 : decode cX10_startSo 90 = .ok (.getfield 98, 3) := by decide +kernel
theorem dX10_startSo_93 : decode cX10_startSo 93 = .ok (.bipush 40, 2) := by decide +kernel
theorem dX10_startSo_95 : decode cX10_startSo 95 = .ok (.iload_n 1, 1) := by decide +kernel
theorem dX10_startSo_96 : decode cX10_startSo 96 = .ok (.iadd, 1) := by decide +kernel
theorem dX10_startSo_97 : decode cX10_startSo 97 = .ok (.iaload, 1) := by decide +kernel
theorem dX10_startSo_98 : decode cX10_startSo 98 = .ok (.iastore, 1) := by decide +kernel
theorem dX10_startSo_99 : decode cX10_startSo 99 = .ok (.iinc 1 1, 3) := by decide +kernel
theorem dX10_startSo_102 : decode cX10_startSo 102 = .ok (.goto (-45), 3) := by decide +kernel
theorem dX10_startSo_105 : decode cX10_startSo 105 = .ok (.iconst 0, 1) := by decide +kernel
theorem dX10_startSo_106 : decode cX10_startSo 106 = .ok (.istore_n 1, 1) := by decide +kernel
theorem dX10_startSo_107 : decode cX10_startSo 107 = .ok (.iload_n 1, 1) := by decide +kernel
theorem dX10_startSo_108 : decode cX10_startSo 108 = .ok (.bipush 36, 2) := by decide +kernel
theorem dX10_startSo_110 : decode cX10_startSo 110 = .ok (.if_icmp .ge 28, 3) := by decide +kernel
theorem dX10_startSo_113 : decode cX10_startSo 113 = .ok (.aload_n 0, 1) := by decide +kernel
theorem dX10_startSo_114 : decode cX10_startSo 114 = .ok (.getfield 98, 3) := by decide +kernel
theorem dX10_startSo_117 : decode cX10_startSo 117 = .ok (.sipush 136, 3) := by decide +kernel
theorem dX10_startSo_120 : decode cX10_startSo 120 = .ok (.iload_n 1, 1) := by decide +kernel
theorem dX10_startSo_121 : decode cX10_startSo 121 = .ok (.iadd, 1) := by decide +kernel
theorem dX10_startSo_122 : decode cX10_startSo 122 = .ok (.aload_n 0, 1) := by decide +kernel
theorem dX10_startSo_123 : decode cX10_startSo 123 = .ok (.getfield 98, 3) := by decide +kernel
theorem dX10_startSo_126 : decode cX10_startSo 126 = .ok (.bipush 48, 2) := by decide +kernel
theorem dX10_startSo_128 : decode cX10_startSo 128 = .ok (.iload_n 1, 1) := by decide +kernel
theorem dX10_startSo_129 : decode cX10_startSo 129 = .ok (.iadd, 1) := by decide +kernel
theorem dX10_startSo_130 : decode cX10_startSo 130 = .ok (.iaload, 1) := by decide +kernel
theorem dX10_startSo_131 : decode cX10_startSo 131 = .ok (.iastore, 1) := by decide +kernel
theorem dX10_startSo_132 : decode cX10_startSo 132 = .ok (.iinc 1 1, 3) := by decide +kernel
theorem dX10_startSo_135 : decode cX10_startSo 135 = .ok (.goto (-28), 3) := by decide +kernel
theorem dX10_startSo_138 : decode cX10_startSo 138 = .ok (.return_, 1) := by decide +kernel
theorem dX10_stay_0 : decode cX10_stay 0 = .ok (.iconst 0, 1) := by decide +kernel
theorem dX10_stay_1 : decode cX10_stay 1 = .ok (.istore_n 2, 1) := by decide +kernel
theorem dX10_stay_2 : decode cX10_stay 2 = .ok (.iload_n 2, 1) := by decide +kernel
theorem dX10_stay_3 : decode cX10_stay 3 = .ok (.bipush 88, 2) := by decide +kernel
theorem dX10_stay_5 : decode cX10_stay 5 = .ok (.if_icmp .ge 41, 3) := by decide +kernel
theorem dX10_stay_8 : decode cX10_stay 8 = .ok (.aload_n 0, 1) := by decide +kernel
theorem dX10_stay_9 : decode cX10_stay 9 = .ok (.getfield 98, 3) := by decide +kernel
theorem dX10_stay_12 : decode cX10_stay 12 = .ok (.bipush 84, 2) := by decide +kernel
theorem dX10_stay_14 : decode cX10_stay 14 = .ok (.iload_n 2, 1) := by decide +kernel
theorem dX10_stay_15 : decode cX10_stay 15 = .ok (.iadd, 1) := by decide +kernel
theorem dX10_stay_16 : decode cX10_stay 16 = .ok (.iaload, 1) := by decide +kernel
theorem dX10_stay_17 : decode cX10_stay 17 = .ok (.istore_n 3, 1) := by decide +kernel
theorem dX10_stay_18 : decode cX10_stay 18 = .ok (.aload_n 0, 1) := by decide +kernel
theorem dX10_stay_19 : decode cX10_stay 19 = .ok (.getfield 98, 3) := by decide +kernel
theorem dX10_stay_22 : decode cX10_stay 22 = .ok (.bipush 84, 2) := by decide +kernel
theorem dX10_stay_24 : decode cX10_stay 24 = .ok (.iload_n 2, 1) := by decide +kernel
theorem dX10_stay_25 : decode cX10_stay 25 = .ok (.iadd, 1) := by decide +kernel
theorem dX10_stay_26 : decode cX10_stay 26 = .ok (.aload_n 0, 1) := by decide +kernel
theorem dX10_stay_27 : decode cX10_stay 27 = .ok (.getfield 110, 3) := by decide +kernel
theorem dX10_stay_30 : decode cX10_stay 30 = .ok (.iload_n 2, 1) := by decide +kernel
theorem dX10_stay_31 : decode cX10_stay 31 = .ok (.iaload, 1) := by decide +kernel
theorem dX10_stay_32 : decode cX10_stay 32 = .ok (.iastore, 1) := by decide +kernel
theorem dX10_stay_33 : decode cX10_stay 33 = .ok (.aload_n 0, 1) := by decide +kernel
theorem dX10_stay_34 : decode cX10_stay 34 = .ok (.getfield 110, 3) := by decide +kernel
theorem dX10_stay_37 : decode cX10_stay 37 = .ok (.iload_n 2, 1) := by decide +kernel
theorem dX10_stay_38 : decode cX10_stay 38 = .ok (.iload_n 3, 1) := by decide +kernel
theorem dX10_stay_39 : decode cX10_stay 39 = .ok (.iastore, 1) := by decide +kernel
theorem dX10_stay_40 : decode cX10_stay 40 = .ok (.iinc 2 1, 3) := by decide +kernel
theorem dX10_stay_43 : decode cX10_stay 43 = .ok (.goto (-41), 3) := by decide +kernel
theorem dX10_stay_46 : decode cX10_stay 46 = .ok (.iload_n 1, 1) := by decide +kernel
theorem dX10_stay_47 : decode cX10_stay 47 = .ok (.ifCond .ne 4, 3) := by decide +kernel
theorem dX10_stay_50 : decode cX10_stay 50 = .ok (.return_, 1) := by decide +kernel
theorem dX10_sum_0 : decode cX10_sum 0 = .ok (.iconst 0, 1) := by decide +kernel
theorem dX10_sum_1 : decode cX10_sum 1 = .ok (.istore_n 3, 1) := by decide +kernel
theorem dX10_sum_2 : decode cX10_sum 2 = .ok (.iconst 0, 1) := by decide +kernel
theorem dX10_sum_3 : decode cX10_sum 3 = .ok (.istore 4, 2) := by decide +kernel
theorem dX10_sum_5 : decode cX10_sum 5 = .ok (.iload 4, 2) := by decide +kernel
theorem dX10_sum_7 : decode cX10_sum 7 = .ok (.iload_n 2, 1) := by decide +kernel
theorem dX10_sum_8 : decode cX10_sum 8 = .ok (.if_icmp .ge 21, 3) := by decide +kernel
theorem dX10_sum_11 : decode cX10_sum 11 = .ok (.iload_n 3, 1) := by decide +kernel
theorem dX10_sum_12 : decode cX10_sum 12 = .ok (.aload_n 0, 1) := by decide +kernel
theorem dX10_sum_13 : decode cX10_sum 13 = .ok (.getfield 98, 3) := by decide +kernel
theorem dX10_sum_16 : decode cX10_sum 16 = .ok (.iload_n 1, 1) := by decide +kernel
theorem dX10_sum_17 : decode cX10_sum 17 = .ok (.iload 4, 2) := by decide +kernel
theorem dX10_sum_19 : decode cX10_sum 19 = .ok (.iadd, 1) := by decide +kernel
theorem dX10_sum_20 : decode cX10_sum 20 = .ok (.iaload, 1) := by decide +kernel
theorem dX10_sum_21 : decode cX10_sum 21 = .ok (.iadd, 1) := by decide +kernel
theorem dX10_sum_22 : decode cX10_sum 22 = .ok (.istore_n 3, 1) := by decide +kernel
theorem dX10_sum_23 : decode cX10_sum 23 = .ok (.iinc 4 1, 3) := by decide +kernel
theorem dX10_sum_26 : decode cX10_sum 26 = .ok (.goto (-21), 3) := by decide +kernel
theorem dX10_sum_29 : decode cX10_sum 29 = .ok (.iload_n 3, 1) := by decide +kernel
theorem dX10_sum_30 : decode cX10_sum 30 = .ok (.ireturn, 1) := by decide +kernel
theorem dX10_take_0 : decode cX10_take 0 = .ok (.aload_n 0, 1) := by decide +kernel
theorem dX10_take_1 : decode cX10_take 1 = .ok (.getfield 11, 3) := by decide +kernel
theorem dX10_take_4 : decode cX10_take 4 = .ok (.istore_n 1, 1) := by decide +kernel
theorem dX10_take_5 : decode cX10_take 5 = .ok (.aload_n 0, 1) := by decide +kernel
theorem dX10_take_6 : decode cX10_take 6 = .ok (.iconst 0, 1) := by decide +kernel
theorem dX10_take_7 : decode cX10_take 7 = .ok (.putfield 11, 3) := by decide +kernel
theorem dX10_take_10 : decode cX10_take 10 = .ok (.iload_n 1, 1) := by decide +kernel
theorem dX10_take_11 : decode cX10_take 11 = .ok (.ireturn, 1) := by decide +kernel
theorem dX10_takeBack_0 : decode cX10_takeBack 0 = .ok (.iconst 0, 1) := by decide +kernel
theorem dX10_takeBack_1 : decode cX10_takeBack 1 = .ok (.istore_n 1, 1) := by decide +kernel
theorem dX10_takeBack_2 : decode cX10_takeBack 2 = .ok (.iload_n 1, 1) := by decide +kernel
theorem dX10_takeBack_3 : decode cX10_takeBack 3 = .ok (.bipush 88, 2) := by decide +kernel
theorem dX10_takeBack_5 : decode cX10_takeBack 5 = .ok (.if_icmp .ge 24, 3) := by decide +kernel
theorem dX10_takeBack_8 : decode cX10_takeBack 8 = .ok (.aload_n 0, 1) := by decide +kernel
theorem dX10_takeBack_9 : decode cX10_takeBack 9 = .ok (.getfield 98, 3) := by decide +kernel
theorem dX10_takeBack_12 : decode cX10_takeBack 12 = .ok (.bipush 84, 2) := by decide +kernel
theorem dX10_takeBack_14 : decode cX10_takeBack 14 = .ok (.iload_n 1, 1) := by decide +kernel
theorem dX10_takeBack_15 : decode cX10_takeBack 15 = .ok (.iadd, 1) := by decide +kernel
theorem dX10_takeBack_16 : decode cX10_takeBack 16 = .ok (.aload_n 0, 1) := by decide +kernel
theorem dX10_takeBack_17 : decode cX10_takeBack 17 = .ok (.getfield 110, 3) := by decide +kernel
theorem dX10_takeBack_20 : decode cX10_takeBack 20 = .ok (.iload_n 1, 1) := by decide +kernel
theorem dX10_takeBack_21 : decode cX10_takeBack 21 = .ok (.iaload, 1) := by decide +kernel
theorem dX10_takeBack_22 : decode cX10_takeBack 22 = .ok (.iastore, 1) := by decide +kernel
theorem dX10_takeBack_23 : decode cX10_takeBack 23 = .ok (.iinc 1 1, 3) := by decide +kernel
theorem dX10_takeBack_26 : decode cX10_takeBack 26 = .ok (.goto (-24), 3) := by decide +kernel
theorem dX10_takeBack_29 : decode cX10_takeBack 29 = .ok (.return_, 1) := by decide +kernel
