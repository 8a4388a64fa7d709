theorem tw_1181 : Cond.fieldLink RX10 (166 : Nat) "WonderParcelsModel" "node" "[I" ∈ gT := gT_t (List.mem_of_getElem? (i := 1181) (by decide +kernel)) (by decide +kernel)
theorem tw_1182 : Cond.fieldLink RX10 (425 : Nat) "WonderParcelsModel" "nodes" "I" ∈ gT := gT_t (List.mem_of_getElem? (i := 1182) (by decide +kernel)) (by decide +kernel)
theorem tw_1183 : Cond.fieldLink RX10 (441 : Nat) "WonderParcelsModel" "onesMany" "I" ∈ gT := gT_t (List.mem_of_getElem? (i := 1183) (by decide +kernel)) (by decide +kernel)
theorem tw_1184 : Cond.fieldLink RX10 (444 : Nat) "WonderParcelsModel" "within" "I" ∈ gT := gT_t (List.mem_of_getElem? (i := 1184) (by decide +kernel)) (by decide +kernel)
theorem tw_1185 : Cond.fieldLink RX10 (431 : Nat) "WonderParcelsModel" "top" "I" ∈ gT := gT_t (List.mem_of_getElem? (i := 1185) (by decide +kernel)) (by decide +kernel)
theorem tw_1751 : Cond.methodLink RX10 (459 : Nat) yX10_readOr ∈ gT := gT_t (List.mem_of_getElem? (i := 1751) (by decide +kernel)) (by decide +kernel)
theorem tw_1753 : Cond.instanceMethod yX10_readOr ∈ gT := gT_t (List.mem_of_getElem? (i := 1753) (by decide +kernel)) (by decide +kernel)
theorem tw_1754 : Cond.code yX10_readOr cX10_readOr 2 (some .boolean) ∈ gT := gT_t (List.mem_of_getElem? (i := 1754) (by decide +kernel)) (by decide +kernel)
theorem tw_1755 : Cond.methodLink RX10 (428 : Nat) yX10_readAnd ∈ gT := gT_t (List.mem_of_getElem? (i := 1755) (by decide +kernel)) (by decide +kernel)
theorem tw_1757 : Cond.instanceMethod yX10_readAnd ∈ gT := gT_t (List.mem_of_getElem? (i := 1757) (by decide +kernel)) (by decide +kernel)
theorem tw_1758 : Cond.code yX10_readAnd cX10_readAnd 2 (some .boolean) ∈ gT := gT_t (List.mem_of_getElem? (i := 1758) (by decide +kernel)) (by decide +kernel)
theorem tw_1759 : Cond.methodLink RX10 (438 : Nat) yX10_readSaid ∈ gT := gT_t (List.mem_of_getElem? (i := 1759) (by decide +kernel)) (by decide +kernel)
theorem tw_1761 : Cond.instanceMethod yX10_readSaid ∈ gT := gT_t (List.mem_of_getElem? (i := 1761) (by decide +kernel)) (by decide +kernel)
theorem tw_1762 : Cond.code yX10_readSaid cX10_readSaid 4 (some .boolean) ∈ gT := gT_t (List.mem_of_getElem? (i := 1762) (by decide +kernel)) (by decide +kernel)
theorem tw_1763 : Cond.methodLink RX10 (447 : Nat) yX10_readBracket ∈ gT := gT_t (List.mem_of_getElem? (i := 1763) (by decide +kernel)) (by decide +kernel)
theorem tw_1765 : Cond.instanceMethod yX10_readBracket ∈ gT := gT_t (List.mem_of_getElem? (i := 1765) (by decide +kernel)) (by decide +kernel)
theorem tw_1766 : Cond.code yX10_readBracket cX10_readBracket 1 (some .boolean) ∈ gT := gT_t (List.mem_of_getElem? (i := 1766) (by decide +kernel)) (by decide +kernel)
theorem tw_1767 : Cond.methodLink RX10 (450 : Nat) yX10_readNot ∈ gT := gT_t (List.mem_of_getElem? (i := 1767) (by decide +kernel)) (by decide +kernel)
theorem tw_1769 : Cond.instanceMethod yX10_readNot ∈ gT := gT_t (List.mem_of_getElem? (i := 1769) (by decide +kernel)) (by decide +kernel)
theorem tw_1770 : Cond.code yX10_readNot cX10_readNot 1 (some .boolean) ∈ gT := gT_t (List.mem_of_getElem? (i := 1770) (by decide +kernel)) (by decide +kernel)
theorem tw_1771 : Cond.methodLink RX10 (434 : Nat) yX10_saysOne ∈ gT := gT_t (List.mem_of_getElem? (i := 1771) (by decide +kernel)) (by decide +kernel)
theorem tw_1773 : Cond.instanceMethod yX10_saysOne ∈ gT := gT_t (List.mem_of_getElem? (i := 1773) (by decide +kernel)) (by decide +kernel)
theorem tw_1774 : Cond.code yX10_saysOne cX10_saysOne 6 (some .int) ∈ gT := gT_t (List.mem_of_getElem? (i := 1774) (by decide +kernel)) (by decide +kernel)
theorem tw_1775 : Cond.methodLink RX10 (453 : Nat) yX10_readOf ∈ gT := gT_t (List.mem_of_getElem? (i := 1775) (by decide +kernel)) (by decide +kernel)
theorem tw_1777 : Cond.instanceMethod yX10_readOf ∈ gT := gT_t (List.mem_of_getElem? (i := 1777) (by decide +kernel)) (by decide +kernel)
theorem tw_1778 : Cond.code yX10_readOf cX10_readOf 2 (some .boolean) ∈ gT := gT_t (List.mem_of_getElem? (i := 1778) (by decide +kernel)) (by decide +kernel)
theorem tw_1779 : Cond.methodLink RX10 (456 : Nat) yX10_readCompare ∈ gT := gT_t (List.mem_of_getElem? (i := 1779) (by decide +kernel)) (by decide +kernel)
theorem tw_1781 : Cond.instanceMethod yX10_readCompare ∈ gT := gT_t (List.mem_of_getElem? (i := 1781) (by decide +kernel)) (by decide +kernel)
theorem tw_1782 : Cond.code yX10_readCompare cX10_readCompare 3 (some .boolean) ∈ gT := gT_t (List.mem_of_getElem? (i := 1782) (by decide +kernel)) (by decide +kernel)
theorem ts_111 : Cond.selects RX10 yX10_readOr yX10_readOr ∈ gT := gT_s (by decide +kernel) (by decide +kernel)
theorem ts_112 : Cond.selects RX10 yX10_readAnd yX10_readAnd ∈ gT := gT_s (by decide +kernel) (by decide +kernel)
theorem ts_113 : Cond.selects RX10 yX10_readSaid yX10_readSaid ∈ gT := gT_s (by decide +kernel) (by decide +kernel)
theorem ts_114 : Cond.selects RX10 yX10_readBracket yX10_readBracket ∈ gT := gT_s (by decide +kernel) (by decide +kernel)
theorem ts_115 : Cond.selects RX10 yX10_readNot yX10_readNot ∈ gT := gT_s (by decide +kernel) (by decide +kernel)
theorem ts_116 : Cond.selects RX10 yX10_saysOne yX10_saysOne ∈ gT := gT_s (by decide +kernel) (by decide +kernel)
theorem ts_117 : Cond.selects RX10 yX10_readOf yX10_readOf ∈ gT := gT_s (by decide +kernel) (by decide +kernel)
theorem ts_118 : Cond.selects RX10 yX10_readCompare yX10_readCompare ∈ gT := gT_s (by decide +kernel) (by decide +kernel)
theorem dX10_readAnd_0 : decode cX10_readAnd 0 = .ok (.aload_n 0, 1) := by decide +kernel
theorem dX10_readAnd_1 : decode cX10_readAnd 1 = .ok (.invokevirtual 438, 3) := by decide +kernel
theorem dX10_readAnd_4 : decode cX10_readAnd 4 = .ok (.ifCond .ne 5, 3) := by decide +kernel
theorem dX10_readAnd_7 : decode cX10_readAnd 7 = .ok (.iconst 0, 1) := by decide +kernel
theorem dX10_readAnd_8 : decode cX10_readAnd 8 = .ok (.ireturn, 1) := by decide +kernel
theorem dX10_readAnd_9 : decode cX10_readAnd 9 = .ok (.aload_n 0, 1) := by decide +kernel
theorem dX10_readAnd_10 : decode cX10_readAnd 10 = .ok (.getfield 431, 3) := by decide +kernel
theorem dX10_readAnd_13 : decode cX10_readAnd 13 = .ok (.istore_n 1, 1) := by decide +kernel
theorem dX10_readAnd_14 : decode cX10_readAnd 14 = .ok (.aload_n 0, 1) := by decide +kernel
theorem dX10_readAnd_15 : decode cX10_readAnd 15 = .ok (.bipush 17, 2) := by decide +kernel
theorem dX10_readAnd_17 : decode cX10_readAnd 17 = .ok (.invokevirtual 206, 3) := by decide +kernel
theorem dX10_readAnd_20 : decode cX10_readAnd 20 = .ok (.ifCond .eq 31, 3) := by decide +kernel
theorem dX10_readAnd_23 : decode cX10_readAnd 23 = .ok (.aload_n 0, 1) := by decide +kernel
theorem dX10_readAnd_24 : decode cX10_readAnd 24 = .ok (.invokevirtual 82, 3) := by decide +kernel
theorem dX10_readAnd_27 : decode cX10_readAnd 27 = .ok (.aload_n 0, 1) := by decide +kernel
theorem dX10_readAnd_28 : decode cX10_readAnd 28 = .ok (.invokevirtual 438, 3) := by decide +kernel
theorem dX10_readAnd_31 : decode cX10_readAnd 31 = .ok (.ifCond .ne 5, 3) := by decide +kernel
theorem dX10_readAnd_34 : decode cX10_readAnd 34 = .ok (.iconst 0, 1) := by decide +kernel
theorem dX10_readAnd_35 : decode cX10_readAnd 35 = .ok (.ireturn, 1) := by decide +kernel
theorem dX10_readAnd_36 : decode cX10_readAnd 36 = .ok (.aload_n 0, 1) := by decide +kernel
theorem dX10_readAnd_37 : decode cX10_readAnd 37 = .ok (.iconst 2, 1) := by decide +kernel
theorem dX10_readAnd_38 : decode cX10_readAnd 38 = .ok (.iload_n 1, 1) := by decide +kernel
theorem dX10_readAnd_39 : decode cX10_readAnd 39 = .ok (.aload_n 0, 1) := by decide +kernel
theorem dX10_readAnd_40 : decode cX10_readAnd 40 = .ok (.getfield 431, 3) := by decide +kernel
theorem dX10_readAnd_43 : decode cX10_readAnd 43 = .ok (.iconst 0, 1) := by decide +kernel
theorem dX10_readAnd_44 : decode cX10_readAnd 44 = .ok (.invokevirtual 434, 3) := by decide +kernel
theorem dX10_readAnd_47 : decode cX10_readAnd 47 = .ok (.istore_n 1, 1) := by decide +kernel
theorem dX10_readAnd_48 : decode cX10_readAnd 48 = .ok (.goto (-34), 3) := by decide +kernel
theorem dX10_readAnd_51 : decode cX10_readAnd 51 = .ok (.aload_n 0, 1) := by decide +kernel
theorem dX10_readAnd_52 : decode cX10_readAnd 52 = .ok (.iload_n 1, 1) := by decide +kernel
theorem dX10_readAnd_53 : decode cX10_readAnd 53 = .ok (.putfield 431, 3) := by decide +kernel
theorem dX10_readAnd_56 : decode cX10_readAnd 56 = .ok (.iconst 1, 1) := by decide +kernel
theorem dX10_readAnd_57 : decode cX10_readAnd 57 = .ok (.ireturn, 1) := by decide +kernel
theorem dX10_readBracket_0 : decode cX10_readBracket 0 = .ok (.aload_n 0, 1) := by decide +kernel
theorem dX10_readBracket_1 : decode cX10_readBracket 1 = .ok (.invokevirtual 459, 3) := by decide +kernel
theorem dX10_readBracket_4 : decode cX10_readBracket 4 = .ok (.ifCond .ne 5, 3) := by decide +kernel
theorem dX10_readBracket_7 : decode cX10_readBracket 7 = .ok (.iconst 0, 1) := by decide +kernel
theorem dX10_readBracket_8 : decode cX10_readBracket 8 = .ok (.ireturn, 1) := by decide +kernel
theorem dX10_readBracket_9 : decode cX10_readBracket 9 = .ok (.aload_n 0, 1) := by decide +kernel
theorem dX10_readBracket_10 : decode cX10_readBracket 10 = .ok (.bipush 41, 2) := by decide +kernel
theorem dX10_readBracket_12 : decode cX10_readBracket 12 = .ok (.invokevirtual 86, 3) := by decide +kernel
theorem dX10_readBracket_15 : decode cX10_readBracket 15 = .ok (.ifCond .ne 9, 3) := by decide +kernel
theorem dX10_readBracket_18 : decode cX10_readBracket 18 = .ok (.aload_n 0, 1) := by decide +kernel
theorem dX10_readBracket_19 : decode cX10_readBracket 19 = .ok (.iconst 1, 1) := by decide +kernel
theorem dX10_readBracket_20 : decode cX10_readBracket 20 = .ok (.invokevirtual 72, 3) := by decide +kernel
theorem dX10_readBracket_23 : decode cX10_readBracket 23 = .ok (.ireturn, 1) := by decide +kernel
theorem dX10_readBracket_24 : decode cX10_readBracket 24 = .ok (.aload_n 0, 1) := by decide +kernel
theorem dX10_readBracket_25 : decode cX10_readBracket 25 = .ok (.invokevirtual 82, 3) := by decide +kernel
theorem dX10_readBracket_28 : decode cX10_readBracket 28 = .ok (.iconst 1, 1) := by decide +kernel
theorem dX10_readBracket_29 : decode cX10_readBracket 29 = .ok (.ireturn, 1) := by decide +kernel
theorem dX10_readCompare_0 : decode cX10_readCompare 0 = .ok (.aload_n 0, 1) := by decide +kernel
theorem dX10_readCompare_1 : decode cX10_readCompare 1 = .ok (.bipush 60, 2) := by decide +kernel
theorem dX10_readCompare_3 : decode cX10_readCompare 3 = .ok (.invokevirtual 86, 3) := by decide +kernel
theorem dX10_readCompare_6 : decode cX10_readCompare 6 = .ok (.ifCond .ne 27, 3) := by decide +kernel
theorem dX10_readCompare_9 : decode cX10_readCompare 9 = .ok (.aload_n 0, 1) := by decide +kernel
theorem dX10_readCompare_10 : decode cX10_readCompare 10 = .ok (.bipush 61, 2) := by decide +kernel
theorem dX10_readCompare_12 : decode cX10_readCompare 12 = .ok (.invokevirtual 86, 3) := by decide +kernel
theorem dX10_readCompare_15 : decode cX10_readCompare 15 = .ok (.ifCond .ne 18, 3) := by decide +kernel
theorem dX10_readCompare_18 : decode cX10_readCompare 18 = .ok (.aload_n 0, 1) := by decide +kernel
theorem dX10_readCompare_19 : decode cX10_readCompare 19 = .ok (.bipush 62, 2) := by decide +kernel
theorem dX10_readCompare_21 : decode cX10_readCompare 21 = .ok (.invokevirtual 86, 3) := by decide +kernel
theorem dX10_readCompare_24 : decode cX10_readCompare 24 = .ok (.ifCond .ne 9, 3) := by decide +kernel
theorem dX10_readCompare_27 : decode cX10_readCompare 27 = .ok (.aload_n 0, 1) := by decide +kernel
theorem dX10_readCompare_28 : decode cX10_readCompare 28 = .ok (.iconst 1, 1) := by decide +kernel
theorem dX10_readCompare_29 : decode cX10_readCompare 29 = .ok (.invokevirtual 72, 3) := by decide +kernel
theorem dX10_readCompare_32 : decode cX10_readCompare 32 = .ok (.ireturn, 1) := by decide +kernel
theorem dX10_readCompare_33 : decode cX10_readCompare 33 = .ok (.aload_n 0, 1) := by decide +kernel
theorem dX10_readCompare_34 : decode cX10_readCompare 34 = .ok (.getfield 40, 3) := by decide +kernel
theorem dX10_readCompare_37 : decode cX10_readCompare 37 = .ok (.istore_n 2, 1) := by decide +kernel
theorem dX10_readCompare_38 : decode cX10_readCompare 38 = .ok (.aload_n 0, 1) := by decide +kernel
theorem dX10_readCompare_39 : decode cX10_readCompare 39 = .ok (.invokevirtual 82, 3) := by decide +kernel
theorem dX10_readCompare_42 : decode cX10_readCompare 42 = .ok (.aload_n 0, 1) := by decide +kernel
theorem dX10_readCompare_43 : decode cX10_readCompare 43 = .ok (.iconst 0, 1) := by decide +kernel
theorem dX10_readCompare_44 : decode cX10_readCompare 44 = .ok (.sipush 999, 3) := by decide +kernel
theorem dX10_readCompare_47 : decode cX10_readCompare 47 = .ok (.invokevirtual 193, 3) := by decide +kernel
theorem dX10_readCompare_50 : decode cX10_readCompare 50 = .ok (.ifCond .ne 5, 3) := by decide +kernel
theorem dX10_readCompare_53 : decode cX10_readCompare 53 = .ok (.iconst 0, 1) := by decide +kernel
theorem dX10_readCompare_54 : decode cX10_readCompare 54 = .ok (.ireturn, 1) := by decide +kernel
theorem dX10_readCompare_55 : decode cX10_readCompare 55 = .ok (.aload_n 0, 1) := by decide +kernel
theorem dX10_readCompare_56 : decode cX10_readCompare 56 = .ok (.aload_n 0, 1) := by decide +kernel
theorem dX10_readCompare_57 : decode cX10_readCompare 57 = .ok (.bipush 50, 2) := by decide +kernel
theorem dX10_readCompare_59 : decode cX10_readCompare 59 = .ok (.iload_n 1, 1) := by decide +kernel
theorem dX10_readCompare_60 : decode cX10_readCompare 60 = .ok (.iadd, 1) := by decide +kernel
theorem dX10_readCompare_61 : decode cX10_readCompare 61 = .ok (.iconst 0, 1) := by decide +kernel
theorem dX10_readCompare_62 : decode cX10_readCompare 62 = .ok (.aload_n 0, 1) := by decide +kernel
theorem dX10_readCompare_63 : decode cX10_readCompare 63 = .ok (.getfield 79, 3) := by decide +kernel
theorem dX10_readCompare_66 : decode cX10_readCompare 66 = .ok (.iload_n 2, 1) := by decide +kernel
theorem dX10_readCompare_67 : decode cX10_readCompare 67 = .ok (.invokevirtual 434, 3) := by decide +kernel
theorem dX10_readCompare_70 : decode cX10_readCompare 70 = .ok (.putfield 431, 3) := by decide +kernel
theorem dX10_readCompare_73 : decode cX10_readCompare 73 = .ok (.iconst 1, 1) := by decide +kernel
theorem dX10_readCompare_74 : decode cX10_readCompare 74 = .ok (.ireturn, 1) := by decide +kernel
theorem dX10_readNot_0 : decode cX10_readNot 0 = .ok (.aload_n 0, 1) := by decide +kernel
theorem dX10_readNot_1 : decode cX10_readNot 1 = .ok (.invokevirtual 438, 3) := by decide +kernel
theorem dX10_readNot_4 : decode cX10_readNot 4 = .ok (.ifCond .ne 5, 3) := by decide +kernel
theorem dX10_readNot_7 : decode cX10_readNot 7 = .ok (.iconst 0, 1) := by decide +kernel
theorem dX10_readNot_8 : decode cX10_readNot 8 = .ok (.ireturn, 1) := by decide +kernel
theorem dX10_readNot_9 : decode cX10_readNot 9 = .ok (.aload_n 0, 1) := by decide +kernel
theorem dX10_readNot_10 : decode cX10_readNot 10 = .ok (.aload_n 0, 1) := by decide +kernel
theorem dX10_readNot_11 : decode cX10_readNot 11 = .ok (.iconst 1, 1) := by decide +kernel
theorem dX10_readNot_12 : decode cX10_readNot 12 = .ok (.aload_n 0, 1) := by decide +kernel
theorem dX10_readNot_13 : decode cX10_readNot 13 = .ok (.getfield 431, 3) := by decide +kernel
theorem dX10_readNot_16 : decode cX10_readNot 16 = .ok (.iconst 0, 1) := by decide +kernel
theorem dX10_readNot_17 : decode cX10_readNot 17 = .ok (.iconst 0, 1) := by decide +kernel
theorem dX10_readNot_18 : decode cX10_readNot 18 = .ok (.invokevirtual 434, 3) := by decide +kernel
theorem dX10_readNot_21 : decode cX10_readNot 21 = .ok (.putfield 431, 3) := by decide +kernel
theorem dX10_readNot_24 : decode cX10_readNot 24 = .ok (.iconst 1, 1) := by decide +kernel
theorem dX10_readNot_25 : decode cX10_readNot 25 = .ok (.ireturn, 1) := by decide +kernel
theorem dX10_readOf_0 : decode cX10_readOf 0 = .ok (.aload_n 0, 1) := by decide +kernel
theorem dX10_readOf_1 : decode cX10_readOf 1 = .ok (.iload_n 1, 1) := by decide +kernel
theorem dX10_readOf_2 : decode cX10_readOf 2 = .ok (.bipush 22, 2) := by decide +kernel
theorem dX10_readOf_4 : decode cX10_readOf 4 = .ok (.if_icmp .ne 7, 3) := by decide +kernel
theorem dX10_readOf_7 : decode cX10_readOf 7 = .ok (.iconst 0, 1) := by decide +kernel
theorem dX10_readOf_8 : decode cX10_readOf 8 = .ok (.goto 5, 3) := by decide +kernel
theorem dX10_readOf_11 : decode cX10_readOf 11 = .ok (.bipush 6, 2) := by decide +kernel
theorem dX10_readOf_13 : decode cX10_readOf 13 = .ok (.aload_n 0, 1) := by decide +kernel
theorem dX10_readOf_14 : decode cX10_readOf 14 = .ok (.getfield 98, 3) := by decide +kernel
theorem dX10_readOf_17 : decode cX10_readOf 17 = .ok (.iload_n 1, 1) := by decide +kernel
theorem dX10_readOf_18 : decode cX10_readOf 18 = .ok (.bipush 22, 2) := by decide +kernel
theorem dX10_readOf_20 : decode cX10_readOf 20 = .ok (.if_icmp .ne 7, 3) := by decide +kernel
theorem dX10_readOf_23 : decode cX10_readOf 23 = .ok (.iconst 0, 1) := by decide +kernel
theorem dX10_readOf_24 : decode cX10_readOf 24 = .ok (.goto 4, 3) := by decide +kernel
theorem dX10_readOf_27 : decode cX10_readOf 27 = .ok (.iconst 1, 1) := by decide +kernel
theorem dX10_readOf_28 : decode cX10_readOf 28 = .ok (.iaload, 1) := by decide +kernel
theorem dX10_readOf_29 : decode cX10_readOf 29 = .ok (.invokevirtual 394, 3) := by decide +kernel
theorem dX10_readOf_32 : decode cX10_readOf 32 = .ok (.ifCond .ne 5, 3) := by decide +kernel
theorem dX10_readOf_35 : decode cX10_readOf 35 = .ok (.iconst 0, 1) := by decide +kernel
theorem dX10_readOf_36 : decode cX10_readOf 36 = .ok (.ireturn, 1) := by decide +kernel
theorem dX10_readOf_37 : decode cX10_readOf 37 = .ok (.aload_n 0, 1) := by decide +kernel
theorem dX10_readOf_38 : decode cX10_readOf 38 = .ok (.aload_n 0, 1) := by decide +kernel
theorem dX10_readOf_39 : decode cX10_readOf 39 = .ok (.bipush 50, 2) := by decide +kernel
theorem dX10_readOf_41 : decode cX10_readOf 41 = .ok (.iload_n 1, 1) := by decide +kernel
theorem dX10_readOf_42 : decode cX10_readOf 42 = .ok (.iadd, 1) := by decide +kernel
theorem dX10_readOf_43 : decode cX10_readOf 43 = .ok (.aload_n 0, 1) := by decide +kernel
theorem dX10_readOf_44 : decode cX10_readOf 44 = .ok (.getfield 79, 3) := by decide +kernel
theorem dX10_readOf_47 : decode cX10_readOf 47 = .ok (.iconst 0, 1) := by decide +kernel
theorem dX10_readOf_48 : decode cX10_readOf 48 = .ok (.iconst 0, 1) := by decide +kernel
theorem dX10_readOf_49 : decode cX10_readOf 49 = .ok (.invokevirtual 434, 3) := by decide +kernel
theorem dX10_readOf_52 : decode cX10_readOf 52 = .ok (.putfield 431, 3) := by decide +kernel
theorem dX10_readOf_55 : decode cX10_readOf 55 = .ok (.iconst 1, 1) := by decide +kernel
theorem dX10_readOf_56 : decode cX10_readOf 56 = .ok (.ireturn, 1) := by decide +kernel
theorem dX10_readOr_0 : decode cX10_readOr 0 = .ok (.aload_n 0, 1) := by decide +kernel
theorem dX10_readOr_1 : decode cX10_readOr 1 = .ok (.invokevirtual 428, 3) := by decide +kernel
theorem dX10_readOr_4 : decode cX10_readOr 4 = .ok (.ifCond .ne 5, 3) := by decide +kernel
theorem dX10_readOr_7 : decode cX10_readOr 7 = .ok (.iconst 0, 1) := by decide +kernel
theorem dX10_readOr_8 : decode cX10_readOr 8 = .ok (.ireturn, 1) := by decide +kernel
theorem dX10_readOr_9 : decode cX10_readOr 9 = .ok (.aload_n 0, 1) := by decide +kernel
theorem dX10_readOr_10 : decode cX10_readOr 10 = .ok (.getfield 431, 3) := by decide +kernel
theorem dX10_readOr_13 : decode cX10_readOr 13 = .ok (.istore_n 1, 1) := by decide +kernel
theorem dX10_readOr_14 : decode cX10_readOr 14 = .ok (.aload_n 0, 1) := by decide +kernel
theorem dX10_readOr_15 : decode cX10_readOr 15 = .ok (.bipush 16, 2) := by decide +kernel
theorem dX10_readOr_17 : decode cX10_readOr 17 = .ok (.invokevirtual 206, 3) := by decide +kernel
theorem dX10_readOr_20 : decode cX10_readOr 20 = .ok (.ifCond .eq 31, 3) := by decide +kernel
theorem dX10_readOr_23 : decode cX10_readOr 23 = .ok (.aload_n 0, 1) := by decide +kernel
theorem dX10_readOr_24 : decode cX10_readOr 24 = .ok (.invokevirtual 82, 3) := by decide +kernel
theorem dX10_readOr_27 : decode cX10_readOr 27 = .ok (.aload_n 0, 1) := by decide +kernel
theorem dX10_readOr_28 : decode cX10_readOr 28 = .ok (.invokevirtual 428, 3) := by decide +kernel
theorem dX10_readOr_31 : decode cX10_readOr 31 = .ok (.ifCond .ne 5, 3) := by decide +kernel
theorem dX10_readOr_34 : decode cX10_readOr 34 = .ok (.iconst 0, 1) := by decide +kernel
theorem dX10_readOr_35 : decode cX10_readOr 35 = .ok (.ireturn, 1) := by decide +kernel
theorem dX10_readOr_36 : decode cX10_readOr 36 = .ok (.aload_n 0, 1) := by decide +kernel
theorem dX10_readOr_37 : decode cX10_readOr 37 = .ok (.iconst 3, 1) := by decide +kernel
theorem dX10_readOr_38 : decode cX10_readOr 38 = .ok (.iload_n 1, 1) := by decide +kernel
theorem dX10_readOr_39 : decode cX10_readOr 39 = .ok (.aload_n 0, 1) := by decide +kernel
theorem dX10_readOr_40 : decode cX10_readOr 40 = .ok (.getfield 431, 3) := by decide +kernel
theorem dX10_readOr_43 : decode cX10_readOr 43 = .ok (.iconst 0, 1) := by decide +kernel
theorem dX10_readOr_44 : decode cX10_readOr 44 = .ok (.invokevirtual 434, 3) := by decide +kernel
theorem dX10_readOr_47 : decode cX10_readOr 47 = .ok (.istore_n 1, 1) := by decide +kernel
theorem dX10_readOr_48 : decode cX10_readOr 48 = .ok (.goto (-34), 3) := by decide +kernel
theorem dX10_readOr_51 : decode cX10_readOr 51 = .ok (.aload_n 0, 1) := by decide +kernel
theorem dX10_readOr_52 : decode cX10_readOr 52 = .ok (.iload_n 1, 1) := by decide +kernel
theorem dX10_readOr_53 : decode cX10_readOr 53 = .ok (.putfield 431, 3) := by decide +kernel
theorem dX10_readOr_56 : decode cX10_readOr 56 = .ok (.iconst 1, 1) := by decide +kernel
theorem dX10_readOr_57 : decode cX10_readOr 57 = .ok (.ireturn, 1) := by decide +kernel
theorem dX10_readSaid_0 : decode cX10_readSaid 0 = .ok (.aload_n 0, 1) := by decide +kernel
theorem dX10_readSaid_1 : decode cX10_readSaid 1 = .ok (.bipush 40, 2) := by decide +kernel
theorem dX10_readSaid_3 : decode cX10_readSaid 3 = .ok (.invokevirtual 86, 3) := by decide +kernel
theorem dX10_readSaid_6 : decode cX10_readSaid 6 = .ok (.istore_n 1, 1) := by decide +kernel
theorem dX10_readSaid_7 : decode cX10_readSaid 7 = .ok (.bipush 18, 2) := by decide +kernel
theorem dX10_readSaid_9 : decode cX10_readSaid 9 = .ok (.istore_n 2, 1) := by decide +kernel
theorem dX10_readSaid_10 : decode cX10_readSaid 10 = .ok (.iload_n 2, 1) := by decide +kernel
theorem dX10_readSaid_11 : decode cX10_readSaid 11 = .ok (.bipush 27, 2) := by decide +kernel
theorem dX10_readSaid_13 : decode cX10_readSaid 13 = .ok (.if_icmp .gt 17, 3) := by decide +kernel
theorem dX10_readSaid_16 : decode cX10_readSaid 16 = .ok (.aload_n 0, 1) := by decide +kernel
theorem dX10_readSaid_17 : decode cX10_readSaid 17 = .ok (.iload_n 2, 1) := by decide +kernel
theorem dX10_readSaid_18 : decode cX10_readSaid 18 = .ok (.invokevirtual 206, 3) := by decide +kernel
theorem dX10_readSaid_21 : decode cX10_readSaid 21 = .ok (.ifCond .ne 9, 3) := by decide +kernel
theorem dX10_readSaid_24 : decode cX10_readSaid 24 = .ok (.iinc 2 1, 3) := by decide +kernel
theorem dX10_readSaid_27 : decode cX10_readSaid 27 = .ok (.goto (-17), 3) := by decide +kernel
theorem dX10_readSaid_30 : decode cX10_readSaid 30 = .ok (.iload_n 1, 1) := by decide +kernel
theorem dX10_readSaid_31 : decode cX10_readSaid 31 = .ok (.ifCond .ne 15, 3) := by decide +kernel
theorem dX10_readSaid_34 : decode cX10_readSaid 34 = .ok (.iload_n 2, 1) := by decide +kernel
theorem dX10_readSaid_35 : decode cX10_readSaid 35 = .ok (.bipush 27, 2) := by decide +kernel
theorem dX10_readSaid_37 : decode cX10_readSaid 37 = .ok (.if_icmp .le 9, 3) := by decide +kernel
theorem dX10_readSaid_40 : decode cX10_readSaid 40 = .ok (.aload_n 0, 1) := by decide +kernel
theorem dX10_readSaid_41 : decode cX10_readSaid 41 = .ok (.iconst 1, 1) := by decide +kernel
theorem dX10_readSaid_42 : decode cX10_readSaid 42 = .ok (.invokevirtual 72, 3) := by decide +kernel
theorem dX10_readSaid_45 : decode cX10_readSaid 45 = .ok (.ireturn, 1) := by decide +kernel
theorem dX10_readSaid_46 : decode cX10_readSaid 46 = .ok (.aload_n 0, 1) := by decide +kernel
theorem dX10_readSaid_47 : decode cX10_readSaid 47 = .ok (.getfield 441, 3) := by decide +kernel
theorem dX10_readSaid_50 : decode cX10_readSaid 50 = .ok (.bipush 20, 2) := by decide +kernel
theorem dX10_readSaid_52 : decode cX10_readSaid 52 = .ok (.if_icmp .eq 12, 3) := by decide +kernel
theorem dX10_readSaid_55 : decode cX10_readSaid 55 = .ok (.aload_n 0, 1) := by decide +kernel
theorem dX10_readSaid_56 : decode cX10_readSaid 56 = .ok (.getfield 444, 3) := by decide +kernel
theorem dX10_readSaid_59 : decode cX10_readSaid 59 = .ok (.bipush 8, 2) := by decide +kernel
theorem dX10_readSaid_61 : decode cX10_readSaid 61 = .ok (.if_icmp .ne 9, 3) := by decide +kernel
theorem dX10_readSaid_64 : decode cX10_readSaid 64 = .ok (.aload_n 0, 1) := by decide +kernel
theorem dX10_readSaid_65 : decode cX10_readSaid 65 = .ok (.iconst 4, 1) := by decide +kernel
theorem dX10_readSaid_66 : decode cX10_readSaid 66 = .ok (.invokevirtual 72, 3) := by decide +kernel
theorem dX10_readSaid_69 : decode cX10_readSaid 69 = .ok (.ireturn, 1) := by decide +kernel
theorem dX10_readSaid_70 : decode cX10_readSaid 70 = .ok (.aload_n 0, 1) := by decide +kernel
theorem dX10_readSaid_71 : decode cX10_readSaid 71 = .ok (.dup, 1) := by decide +kernel
theorem dX10_readSaid_72 : decode cX10_readSaid 72 = .ok (.getfield 441, 3) := by decide +kernel
theorem dX10_readSaid_75 : decode cX10_readSaid 75 = .ok (.iconst 1, 1) := by decide +kernel
theorem dX10_readSaid_76 : decode cX10_readSaid 76 = .ok (.iadd, 1) := by decide +kernel
theorem dX10_readSaid_77 : decode cX10_readSaid 77 = .ok (.putfield 441, 3) := by decide +kernel
theorem dX10_readSaid_80 : decode cX10_readSaid 80 = .ok (.aload_n 0, 1) := by decide +kernel
theorem dX10_readSaid_81 : decode cX10_readSaid 81 = .ok (.dup, 1) := by decide +kernel
theorem dX10_readSaid_82 : decode cX10_readSaid 82 = .ok (.getfield 444, 3) := by decide +kernel
theorem dX10_readSaid_85 : decode cX10_readSaid 85 = .ok (.iconst 1, 1) := by decide +kernel
theorem dX10_readSaid_86 : decode cX10_readSaid 86 = .ok (.iadd, 1) := by decide +kernel
theorem dX10_readSaid_87 : decode cX10_readSaid 87 = .ok (.putfield 444, 3) := by decide +kernel
theorem dX10_readSaid_90 : decode cX10_readSaid 90 = .ok (.aload_n 0, 1) := by decide +kernel
theorem dX10_readSaid_91 : decode cX10_readSaid 91 = .ok (.invokevirtual 82, 3) := by decide +kernel
theorem dX10_readSaid_94 : decode cX10_readSaid 94 = .ok (.iconst 1, 1) := by decide +kernel
theorem dX10_readSaid_95 : decode cX10_readSaid 95 = .ok (.istore_n 3, 1) := by decide +kernel
theorem dX10_readSaid_96 : decode cX10_readSaid 96 = .ok (.iload_n 1, 1) := by decide +kernel
theorem dX10_readSaid_97 : decode cX10_readSaid 97 = .ok (.ifCond .eq 11, 3) := by decide +kernel
theorem dX10_readSaid_100 : decode cX10_readSaid 100 = .ok (.aload_n 0, 1) := by decide +kernel
theorem dX10_readSaid_101 : decode cX10_readSaid 101 = .ok (.invokevirtual 447, 3) := by decide +kernel
theorem dX10_readSaid_104 : decode cX10_readSaid 104 = .ok (.istore_n 3, 1) := by decide +kernel
theorem dX10_readSaid_105 : decode cX10_readSaid 105 = .ok (.goto 61, 3) := by decide +kernel
theorem dX10_readSaid_108 : decode cX10_readSaid 108 = .ok (.iload_n 2, 1) := by decide +kernel
theorem dX10_readSaid_109 : decode cX10_readSaid 109 = .ok (.bipush 18, 2) := by decide +kernel
theorem dX10_readSaid_111 : decode cX10_readSaid 111 = .ok (.if_icmp .ne 11, 3) := by decide +kernel
theorem dX10_readSaid_114 : decode cX10_readSaid 114 = .ok (.aload_n 0, 1) := by decide +kernel
theorem dX10_readSaid_115 : decode cX10_readSaid 115 = .ok (.invokevirtual 450, 3) := by decide +kernel
theorem dX10_readSaid_118 : decode cX10_readSaid 118 = .ok (.istore_n 3, 1) := by decide +kernel
theorem dX10_readSaid_119 : decode cX10_readSaid 119 = .ok (.goto 47, 3) := by decide +kernel
theorem dX10_readSaid_122 : decode cX10_readSaid 122 = .ok (.iload_n 2, 1) := by decide +kernel
theorem dX10_readSaid_123 : decode cX10_readSaid 123 = .ok (.bipush 22, 2) := by decide +kernel
theorem dX10_readSaid_125 : decode cX10_readSaid 125 = .ok (.if_icmp .ge 21, 3) := by decide +kernel
theorem dX10_readSaid_128 : decode cX10_readSaid 128 = .ok (.aload_n 0, 1) := by decide +kernel
theorem dX10_readSaid_129 : decode cX10_readSaid 129 = .ok (.aload_n 0, 1) := by decide +kernel
theorem dX10_readSaid_130 : decode cX10_readSaid 130 = .ok (.bipush 50, 2) := by decide +kernel
theorem dX10_readSaid_132 : decode cX10_readSaid 132 = .ok (.iload_n 2, 1) := by decide +kernel
theorem dX10_readSaid_133 : decode cX10_readSaid 133 = .ok (.iadd, 1) := by decide +kernel
theorem dX10_readSaid_134 : decode cX10_readSaid 134 = .ok (.iconst 0, 1) := by decide +kernel
theorem dX10_readSaid_135 : decode cX10_readSaid 135 = .ok (.iconst 0, 1) := by decide +kernel
theorem dX10_readSaid_136 : decode cX10_readSaid 136 = .ok (.iconst 0, 1) := by decide +kernel
theorem dX10_readSaid_137 : decode cX10_readSaid 137 = .ok (.invokevirtual 434, 3) := by decide +kernel
theorem dX10_readSaid_140 : decode cX10_readSaid 140 = .ok (.putfield 431, 3) := by decide +kernel
theorem dX10_readSaid_143 : decode cX10_readSaid 143 = .ok (.goto 23, 3) := by decide +kernel
theorem dX10_readSaid_146 : decode cX10_readSaid 146 = .ok (.iload_n 2, 1) := by decide +kernel
theorem dX10_readSaid_147 : decode cX10_readSaid 147 = .ok (.bipush 24, 2) := by decide +kernel
theorem dX10_readSaid_149 : decode cX10_readSaid 149 = .ok (.if_icmp .ge 11, 3) := by decide +kernel
theorem dX10_readSaid_152 : decode cX10_readSaid 152 = .ok (.aload_n 0, 1) := by decide +kernel
theorem dX10_readSaid_153 : decode cX10_readSaid 153 = .ok (.iload_n 2, 1) := by decide +kernel
theorem dX10_readSaid_154 : decode cX10_readSaid 154 = .ok (.invokevirtual 453, 3) := by decide +kernel
theorem dX10_readSaid_157 : decode cX10_readSaid 157 = .ok (.goto 8, 3) := by decide +kernel
theorem dX10_readSaid_160 : decode cX10_readSaid 160 = .ok (.aload_n 0, 1) := by decide +kernel
theorem dX10_readSaid_161 : decode cX10_readSaid 161 = .ok (.iload_n 2, 1) := by decide +kernel
theorem dX10_readSaid_162 : decode cX10_readSaid 162 = .ok (.invokevirtual 456, 3) := by decide +kernel
theorem dX10_readSaid_165 : decode cX10_readSaid 165 = .ok (.istore_n 3, 1) := by decide +kernel
theorem dX10_readSaid_166 : decode cX10_readSaid 166 = .ok (.aload_n 0, 1) := by decide +kernel
theorem dX10_readSaid_167 : decode cX10_readSaid 167 = .ok (.dup, 1) := by decide +kernel
theorem dX10_readSaid_168 : decode cX10_readSaid 168 = .ok (.getfield 444, 3) := by decide +kernel
theorem dX10_readSaid_171 : decode cX10_readSaid 171 = .ok (.iconst 1, 1) := by decide +kernel
theorem dX10_readSaid_172 : decode cX10_readSaid 172 = .ok (.isub, 1) := by decide +kernel
theorem dX10_readSaid_173 : decode cX10_readSaid 173 = .ok (.putfield 444, 3) := by decide +kernel
theorem dX10_readSaid_176 : decode cX10_readSaid 176 = .ok (.iload_n 3, 1) := by decide +kernel
theorem dX10_readSaid_177 : decode cX10_readSaid 177 = .ok (.ireturn, 1) := by decide +kernel
theorem dX10_saysOne_0 : decode cX10_saysOne 0 = .ok (.iconst 4, 1) := by decide +kernel
theorem dX10_saysOne_1 : decode cX10_saysOne 1 = .ok (.aload_n 0, 1) := by decide +kernel
theorem dX10_saysOne_2 : decode cX10_saysOne 2 = .ok (.getfield 425, 3) := by decide +kernel
theorem dX10_saysOne_5 : decode cX10_saysOne 5 = .ok (.imul, 1) := by decide +kernel
theorem dX10_saysOne_6 : decode cX10_saysOne 6 = .ok (.istore 5, 2) := by decide +kernel
theorem dX10_saysOne_8 : decode cX10_saysOne 8 = .ok (.aload_n 0, 1) := by decide +kernel
theorem dX10_saysOne_9 : decode cX10_saysOne 9 = .ok (.getfield 166, 3) := by decide +kernel
theorem dX10_saysOne_12 : decode cX10_saysOne 12 = .ok (.iload 5, 2) := by decide +kernel
theorem dX10_saysOne_14 : decode cX10_saysOne 14 = .ok (.iload_n 1, 1) := by decide +kernel
theorem dX10_saysOne_15 : decode cX10_saysOne 15 = .ok (.iastore, 1) := by decide +kernel
theorem dX10_saysOne_16 : decode cX10_saysOne 16 = .ok (.aload_n 0, 1) := by decide +kernel
theorem dX10_saysOne_17 : decode cX10_saysOne 17 = .ok (.getfield 166, 3) := by decide +kernel
theorem dX10_saysOne_20 : decode cX10_saysOne 20 = .ok (.iload 5, 2) := by decide +kernel
theorem dX10_saysOne_22 : decode cX10_saysOne 22 = .ok (.iconst 1, 1) := by decide +kernel
theorem dX10_saysOne_23 : decode cX10_saysOne 23 = .ok (.iadd, 1) := by decide +kernel
theorem dX10_saysOne_24 : decode cX10_saysOne 24 = .ok (.iload_n 2, 1) := by decide +kernel
theorem dX10_saysOne_25 : decode cX10_saysOne 25 = .ok (.iastore, 1) := by decide +kernel
theorem dX10_saysOne_26 : decode cX10_saysOne 26 = .ok (.aload_n 0, 1) := by decide +kernel
theorem dX10_saysOne_27 : decode cX10_saysOne 27 = .ok (.getfield 166, 3) := by decide +kernel
theorem dX10_saysOne_30 : decode cX10_saysOne 30 = .ok (.iload 5, 2) := by decide +kernel
theorem dX10_saysOne_32 : decode cX10_saysOne 32 = .ok (.iconst 2, 1) := by decide +kernel
theorem dX10_saysOne_33 : decode cX10_saysOne 33 = .ok (.iadd, 1) := by decide +kernel
theorem dX10_saysOne_34 : decode cX10_saysOne 34 = .ok (.iload_n 3, 1) := by decide +kernel
theorem dX10_saysOne_35 : decode cX10_saysOne 35 = .ok (.iastore, 1) := by decide +kernel
theorem dX10_saysOne_36 : decode cX10_saysOne 36 = .ok (.aload_n 0, 1) := by decide +kernel
theorem dX10_saysOne_37 : decode cX10_saysOne 37 = .ok (.getfield 166, 3) := by decide +kernel
theorem dX10_saysOne_40 : decode cX10_saysOne 40 = .ok (.iload 5, 2) := by decide +kernel
theorem dX10_saysOne_42 : decode cX10_saysOne 42 = .ok (.iconst 3, 1) := by decide +kernel
theorem dX10_saysOne_43 : decode cX10_saysOne 43 = .ok (.iadd, 1) := by decide +kernel
theorem dX10_saysOne_44 : decode cX10_saysOne 44 = .ok (.iload 4, 2) := by decide +kernel
theorem dX10_saysOne_46 : decode cX10_saysOne 46 = .ok (.iastore, 1) := by decide +kernel
theorem dX10_saysOne_47 : decode cX10_saysOne 47 = .ok (.aload_n 0, 1) := by decide +kernel
theorem dX10_saysOne_48 : decode cX10_saysOne 48 = .ok (.dup, 1) := by decide +kernel
theorem dX10_saysOne_49 : decode cX10_saysOne 49 = .ok (.getfield 425, 3) := by decide +kernel
theorem dX10_saysOne_52 : decode cX10_saysOne 52 = .ok (.iconst 1, 1) := by decide +kernel
theorem dX10_saysOne_53 : decode cX10_saysOne 53 = .ok (.iadd, 1) := by decide +kernel
theorem dX10_saysOne_54 : decode cX10_saysOne 54 = .ok (.putfield 425, 3) := by decide +kernel
theorem dX10_saysOne_57 : decode cX10_saysOne 57 = .ok (.aload_n 0, 1) := by decide +kernel
theorem dX10_saysOne_58 : decode cX10_saysOne 58 = .ok (.getfield 425, 3) := by decide +kernel
theorem dX10_saysOne_61 : decode cX10_saysOne 61 = .ok (.iconst 1, 1) := by decide +kernel
theorem dX10_saysOne_62 : decode cX10_saysOne 62 = .ok (.isub, 1) := by decide +kernel
theorem dX10_saysOne_63 : decode cX10_saysOne 63 = .ok (.ireturn, 1) := by decide +kernel
theorem dX10_sentence_0 : decode cX10_sentence 0 = .ok (.aload_n 0, 1) := by decide +kernel
theorem dX10_sentence_1 : decode cX10_sentence 1 = .ok (.sipush 200, 3) := by decide +kernel
theorem dX10_sentence_4 : decode cX10_sentence 4 = .ok (.invokevirtual 234, 3) := by decide +kernel
theorem dX10_sentence_7 : decode cX10_sentence 7 = .ok (.aload_n 0, 1) := by decide +kernel
theorem dX10_sentence_8 : decode cX10_sentence 8 = .ok (.iconst 0, 1) := by decide +kernel
theorem dX10_sentence_9 : decode cX10_sentence 9 = .ok (.putfield 425, 3) := by decide +kernel
theorem dX10_sentence_12 : decode cX10_sentence 12 = .ok (.aload_n 0, 1) := by decide +kernel
theorem dX10_sentence_13 : decode cX10_sentence 13 = .ok (.iconst 0, 1) := by decide +kernel
theorem dX10_sentence_14 : decode cX10_sentence 14 = .ok (.putfield 441, 3) := by decide +kernel
theorem dX10_sentence_17 : decode cX10_sentence 17 = .ok (.aload_n 0, 1) := by decide +kernel
theorem dX10_sentence_18 : decode cX10_sentence 18 = .ok (.iconst 0, 1) := by decide +kernel
theorem dX10_sentence_19 : decode cX10_sentence 19 = .ok (.putfield 444, 3) := by decide +kernel
theorem dX10_sentence_22 : decode cX10_sentence 22 = .ok (.aload_n 0, 1) := by decide +kernel
theorem dX10_sentence_23 : decode cX10_sentence 23 = .ok (.invokevirtual 459, 3) := by decide +kernel
theorem dX10_sentence_26 : decode cX10_sentence 26 = .ok (.ifCond .ne 10, 3) := by decide +kernel
theorem dX10_sentence_29 : decode cX10_sentence 29 = .ok (.iconst (-1), 1) := by decide +kernel
theorem dX10_sentence_30 : decode cX10_sentence 30 = .ok (.aload_n 0, 1) := by decide +kernel
theorem dX10_sentence_31 : decode cX10_sentence 31 = .ok (.getfield 69, 3) := by decide +kernel
theorem dX10_sentence_34 : decode cX10_sentence 34 = .ok (.isub, 1) := by decide +kernel
theorem dX10_sentence_35 : decode cX10_sentence 35 = .ok (.ireturn, 1) := by decide +kernel
theorem dX10_sentence_36 : decode cX10_sentence 36 = .ok (.aload_n 0, 1) := by decide +kernel
theorem dX10_sentence_37 : decode cX10_sentence 37 = .ok (.getfield 30, 3) := by decide +kernel
theorem dX10_sentence_40 : decode cX10_sentence 40 = .ok (.ifCond .eq 16, 3) := by decide +kernel
theorem dX10_sentence_43 : decode cX10_sentence 43 = .ok (.aload_n 0, 1) := by decide +kernel
theorem dX10_sentence_44 : decode cX10_sentence 44 = .ok (.iconst 1, 1) := by decide +kernel
theorem dX10_sentence_45 : decode cX10_sentence 45 = .ok (.invokevirtual 72, 3) := by decide +kernel
theorem dX10_sentence_48 : decode cX10_sentence 48 = .ok (.pop, 1) := by decide +kernel
theorem dX10_sentence_49 : decode cX10_sentence 49 = .ok (.iconst (-1), 1) := by decide +kernel
theorem dX10_sentence_50 : decode cX10_sentence 50 = .ok (.aload_n 0, 1) := by decide +kernel
theorem dX10_sentence_51 : decode cX10_sentence 51 = .ok (.getfield 69, 3) := by decide +kernel
theorem dX10_sentence_54 : decode cX10_sentence 54 = .ok (.isub, 1) := by decide +kernel
theorem dX10_sentence_55 : decode cX10_sentence 55 = .ok (.ireturn, 1) := by decide +kernel
theorem dX10_sentence_56 : decode cX10_sentence 56 = .ok (.aload_n 0, 1) := by decide +kernel
theorem dX10_sentence_57 : decode cX10_sentence 57 = .ok (.getfield 98, 3) := by decide +kernel
theorem dX10_sentence_60 : decode cX10_sentence 60 = .ok (.sipush 172, 3) := by decide +kernel
theorem dX10_sentence_63 : decode cX10_sentence 63 = .ok (.iconst 1, 1) := by decide +kernel
theorem dX10_sentence_64 : decode cX10_sentence 64 = .ok (.iastore, 1) := by decide +kernel
theorem dX10_sentence_65 : decode cX10_sentence 65 = .ok (.aload_n 0, 1) := by decide +kernel
theorem dX10_sentence_66 : decode cX10_sentence 66 = .ok (.getfield 98, 3) := by decide +kernel
theorem dX10_sentence_69 : decode cX10_sentence 69 = .ok (.sipush 173, 3) := by decide +kernel
theorem dX10_sentence_72 : decode cX10_sentence 72 = .ok (.aload_n 0, 1) := by decide +kernel
theorem dX10_sentence_73 : decode cX10_sentence 73 = .ok (.getfield 431, 3) := by decide +kernel
theorem dX10_sentence_76 : decode cX10_sentence 76 = .ok (.iastore, 1) := by decide +kernel
theorem dX10_sentence_77 : decode cX10_sentence 77 = .ok (.iconst 0, 1) := by decide +kernel
theorem dX10_sentence_78 : decode cX10_sentence 78 = .ok (.istore_n 1, 1) := by decide +kernel
theorem dX10_sentence_79 : decode cX10_sentence 79 = .ok (.iload_n 1, 1) := by decide +kernel
theorem dX10_sentence_80 : decode cX10_sentence 80 = .ok (.sipush 240, 3) := by decide +kernel
theorem dX10_sentence_83 : decode cX10_sentence 83 = .ok (.if_icmp .ge 25, 3) := by decide +kernel
theorem dX10_sentence_86 : decode cX10_sentence 86 = .ok (.aload_n 0, 1) := by decide +kernel
theorem dX10_sentence_87 : decode cX10_sentence 87 = .ok (.getfield 98, 3) := by decide +kernel
theorem dX10_sentence_90 : decode cX10_sentence 90 = .ok (.sipush 174, 3) := by decide +kernel
theorem dX10_sentence_93 : decode cX10_sentence 93 = .ok (.iload_n 1, 1) := by decide +kernel
theorem dX10_sentence_94 : decode cX10_sentence 94 = .ok (.iadd, 1) := by decide +kernel
theorem dX10_sentence_95 : decode cX10_sentence 95 = .ok (.aload_n 0, 1) := by decide +kernel
theorem dX10_sentence_96 : decode cX10_sentence 96 = .ok (.getfield 166, 3) := by decide +kernel
theorem dX10_sentence_99 : decode cX10_sentence 99 = .ok (.iload_n 1, 1) := by decide +kernel
theorem dX10_sentence_100 : decode cX10_sentence 100 = .ok (.iaload, 1) := by decide +kernel
theorem dX10_sentence_101 : decode cX10_sentence 101 = .ok (.iastore, 1) := by decide +kernel
theorem dX10_sentence_102 : decode cX10_sentence 102 = .ok (.iinc 1 1, 3) := by decide +kernel
theorem dX10_sentence_105 : decode cX10_sentence 105 = .ok (.goto (-26), 3) := by decide +kernel
theorem dX10_sentence_108 : decode cX10_sentence 108 = .ok (.aload_n 0, 1) := by decide +kernel
theorem dX10_sentence_109 : decode cX10_sentence 109 = .ok (.getfield 441, 3) := by decide +kernel
theorem dX10_sentence_112 : decode cX10_sentence 112 = .ok (.ireturn, 1) := by decide +kernel
theorem rl_17 : RI 17 17 17 := by unfold RI; decide +kernel
theorem rl_50 : RI 50 50 50 := by unfold RI; decide +kernel
theorem rl_240 : RI 240 240 240 := by unfold RI; decide +kernel
