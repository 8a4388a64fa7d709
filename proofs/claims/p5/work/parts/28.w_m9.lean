theorem tw_1177 : Cond.fieldLink RX10 (160 : Nat) "WonderParcelsModel" "line" "[I" ∈ gT := gT_t (List.mem_of_getElem? (i := 1177) (by decide +kernel)) (by decide +kernel)
theorem tw_1179 : Cond.fieldLink RX10 (406 : Nat) "WonderParcelsModel" "lineMany" "I" ∈ gT := gT_t (List.mem_of_getElem? (i := 1179) (by decide +kernel)) (by decide +kernel)
theorem tw_1711 : Cond.methodLink RX10 (412 : Nat) yX10_readBookLine ∈ gT := gT_t (List.mem_of_getElem? (i := 1711) (by decide +kernel)) (by decide +kernel)
theorem tw_1713 : Cond.instanceMethod yX10_readBookLine ∈ gT := gT_t (List.mem_of_getElem? (i := 1713) (by decide +kernel)) (by decide +kernel)
theorem tw_1714 : Cond.code yX10_readBookLine cX10_readBookLine 6 (some .boolean) ∈ gT := gT_t (List.mem_of_getElem? (i := 1714) (by decide +kernel)) (by decide +kernel)
theorem tw_1715 : Cond.methodLink RX10 (409 : Nat) yX10_readDoes ∈ gT := gT_t (List.mem_of_getElem? (i := 1715) (by decide +kernel)) (by decide +kernel)
theorem tw_1717 : Cond.instanceMethod yX10_readDoes ∈ gT := gT_t (List.mem_of_getElem? (i := 1717) (by decide +kernel)) (by decide +kernel)
theorem tw_1718 : Cond.code yX10_readDoes cX10_readDoes 3 (some .boolean) ∈ gT := gT_t (List.mem_of_getElem? (i := 1718) (by decide +kernel)) (by decide +kernel)
theorem tw_1719 : Cond.methodLink RX10 (397 : Nat) yX10_readParcelName ∈ gT := gT_t (List.mem_of_getElem? (i := 1719) (by decide +kernel)) (by decide +kernel)
theorem tw_1721 : Cond.instanceMethod yX10_readParcelName ∈ gT := gT_t (List.mem_of_getElem? (i := 1721) (by decide +kernel)) (by decide +kernel)
theorem tw_1722 : Cond.code yX10_readParcelName cX10_readParcelName 1 (some .boolean) ∈ gT := gT_t (List.mem_of_getElem? (i := 1722) (by decide +kernel)) (by decide +kernel)
theorem tw_1727 : Cond.methodLink RX10 (400 : Nat) yX10_keep ∈ gT := gT_t (List.mem_of_getElem? (i := 1727) (by decide +kernel)) (by decide +kernel)
theorem tw_1729 : Cond.instanceMethod yX10_keep ∈ gT := gT_t (List.mem_of_getElem? (i := 1729) (by decide +kernel)) (by decide +kernel)
theorem tw_1730 : Cond.code yX10_keep cX10_keep 3 (some .boolean) ∈ gT := gT_t (List.mem_of_getElem? (i := 1730) (by decide +kernel)) (by decide +kernel)
theorem tw_1731 : Cond.methodLink RX10 (403 : Nat) yX10_readIdeaName ∈ gT := gT_t (List.mem_of_getElem? (i := 1731) (by decide +kernel)) (by decide +kernel)
theorem tw_1733 : Cond.instanceMethod yX10_readIdeaName ∈ gT := gT_t (List.mem_of_getElem? (i := 1733) (by decide +kernel)) (by decide +kernel)
theorem tw_1734 : Cond.code yX10_readIdeaName cX10_readIdeaName 1 (some .boolean) ∈ gT := gT_t (List.mem_of_getElem? (i := 1734) (by decide +kernel)) (by decide +kernel)
theorem tw_1735 : Cond.methodLink RX10 (415 : Nat) yX10_goBy ∈ gT := gT_t (List.mem_of_getElem? (i := 1735) (by decide +kernel)) (by decide +kernel)
theorem tw_1737 : Cond.instanceMethod yX10_goBy ∈ gT := gT_t (List.mem_of_getElem? (i := 1737) (by decide +kernel)) (by decide +kernel)
theorem tw_1738 : Cond.code yX10_goBy cX10_goBy 4 (some .int) ∈ gT := gT_t (List.mem_of_getElem? (i := 1738) (by decide +kernel)) (by decide +kernel)
theorem tw_1739 : Cond.methodLink RX10 (421 : Nat) yX10_stay ∈ gT := gT_t (List.mem_of_getElem? (i := 1739) (by decide +kernel)) (by decide +kernel)
theorem tw_1741 : Cond.instanceMethod yX10_stay ∈ gT := gT_t (List.mem_of_getElem? (i := 1741) (by decide +kernel)) (by decide +kernel)
theorem tw_1742 : Cond.code yX10_stay cX10_stay 4 none ∈ gT := gT_t (List.mem_of_getElem? (i := 1742) (by decide +kernel)) (by decide +kernel)
theorem ts_103 : Cond.selects RX10 yX10_readBookLine yX10_readBookLine ∈ gT := gT_s (by decide +kernel) (by decide +kernel)
theorem ts_104 : Cond.selects RX10 yX10_readDoes yX10_readDoes ∈ gT := gT_s (by decide +kernel) (by decide +kernel)
theorem ts_105 : Cond.selects RX10 yX10_readParcelName yX10_readParcelName ∈ gT := gT_s (by decide +kernel) (by decide +kernel)
theorem ts_107 : Cond.selects RX10 yX10_keep yX10_keep ∈ gT := gT_s (by decide +kernel) (by decide +kernel)
theorem ts_108 : Cond.selects RX10 yX10_readIdeaName yX10_readIdeaName ∈ gT := gT_s (by decide +kernel) (by decide +kernel)
theorem ts_109 : Cond.selects RX10 yX10_goBy yX10_goBy ∈ gT := gT_s (by decide +kernel) (by decide +kernel)
theorem ts_110 : Cond.selects RX10 yX10_stay yX10_stay ∈ gT := gT_s (by decide +kernel) (by decide +kernel)
theorem dX10_book_0 : decode cX10_book 0 = .ok (.aload_n 0, 1) := by decide +kernel
theorem dX10_book_1 : decode cX10_book 1 = .ok (.iconst 0, 1) := by decide +kernel
theorem dX10_book_2 : decode cX10_book 2 = .ok (.putfield 1, 3) := by decide +kernel
theorem dX10_book_5 : decode cX10_book 5 = .ok (.iload_n 1, 1) := by decide +kernel
theorem dX10_book_6 : decode cX10_book 6 = .ok (.iconst 0, 1) := by decide +kernel
theorem dX10_book_7 : decode cX10_book 7 = .ok (.iconst 1, 1) := by decide +kernel
theorem dX10_book_8 : decode cX10_book 8 = .ok (.invokestatic 75, 3) := by decide +kernel
theorem dX10_book_11 : decode cX10_book 11 = .ok (.ifCond .ne 7, 3) := by decide +kernel
theorem dX10_book_14 : decode cX10_book 14 = .ok (.sipush (-1000), 3) := by decide +kernel
theorem dX10_book_17 : decode cX10_book 17 = .ok (.ireturn, 1) := by decide +kernel
theorem dX10_book_18 : decode cX10_book 18 = .ok (.aload_n 0, 1) := by decide +kernel
theorem dX10_book_19 : decode cX10_book 19 = .ok (.sipush 400, 3) := by decide +kernel
theorem dX10_book_22 : decode cX10_book 22 = .ok (.invokevirtual 234, 3) := by decide +kernel
theorem dX10_book_25 : decode cX10_book 25 = .ok (.aload_n 0, 1) := by decide +kernel
theorem dX10_book_26 : decode cX10_book 26 = .ok (.iconst 0, 1) := by decide +kernel
theorem dX10_book_27 : decode cX10_book 27 = .ok (.putfield 406, 3) := by decide +kernel
theorem dX10_book_30 : decode cX10_book 30 = .ok (.aload_n 0, 1) := by decide +kernel
theorem dX10_book_31 : decode cX10_book 31 = .ok (.getfield 30, 3) := by decide +kernel
theorem dX10_book_34 : decode cX10_book 34 = .ok (.ifCond .eq 31, 3) := by decide +kernel
theorem dX10_book_37 : decode cX10_book 37 = .ok (.aload_n 0, 1) := by decide +kernel
theorem dX10_book_38 : decode cX10_book 38 = .ok (.invokevirtual 412, 3) := by decide +kernel
theorem dX10_book_41 : decode cX10_book 41 = .ok (.ifCond .ne 11, 3) := by decide +kernel
theorem dX10_book_44 : decode cX10_book 44 = .ok (.bipush (-2), 2) := by decide +kernel
theorem dX10_book_46 : decode cX10_book 46 = .ok (.aload_n 0, 1) := by decide +kernel
theorem dX10_book_47 : decode cX10_book 47 = .ok (.getfield 69, 3) := by decide +kernel
theorem dX10_book_50 : decode cX10_book 50 = .ok (.isub, 1) := by decide +kernel
theorem dX10_book_51 : decode cX10_book 51 = .ok (.ireturn, 1) := by decide +kernel
theorem dX10_book_52 : decode cX10_book 52 = .ok (.aload_n 0, 1) := by decide +kernel
theorem dX10_book_53 : decode cX10_book 53 = .ok (.dup, 1) := by decide +kernel
theorem dX10_book_54 : decode cX10_book 54 = .ok (.getfield 406, 3) := by decide +kernel
theorem dX10_book_57 : decode cX10_book 57 = .ok (.iconst 1, 1) := by decide +kernel
theorem dX10_book_58 : decode cX10_book 58 = .ok (.iadd, 1) := by decide +kernel
theorem dX10_book_59 : decode cX10_book 59 = .ok (.putfield 406, 3) := by decide +kernel
theorem dX10_book_62 : decode cX10_book 62 = .ok (.goto (-32), 3) := by decide +kernel
theorem dX10_book_65 : decode cX10_book 65 = .ok (.aload_n 0, 1) := by decide +kernel
theorem dX10_book_66 : decode cX10_book 66 = .ok (.invokevirtual 328, 3) := by decide +kernel
theorem dX10_book_69 : decode cX10_book 69 = .ok (.iconst 0, 1) := by decide +kernel
theorem dX10_book_70 : decode cX10_book 70 = .ok (.istore_n 2, 1) := by decide +kernel
theorem dX10_book_71 : decode cX10_book 71 = .ok (.iconst 0, 1) := by decide +kernel
theorem dX10_book_72 : decode cX10_book 72 = .ok (.istore_n 3, 1) := by decide +kernel
theorem dX10_book_73 : decode cX10_book 73 = .ok (.iload_n 2, 1) := by decide +kernel
theorem dX10_book_74 : decode cX10_book 74 = .ok (.aload_n 0, 1) := by decide +kernel
theorem dX10_book_75 : decode cX10_book 75 = .ok (.getfield 406, 3) := by decide +kernel
theorem dX10_book_78 : decode cX10_book 78 = .ok (.if_icmp .ge 25, 3) := by decide +kernel
theorem dX10_book_81 : decode cX10_book 81 = .ok (.iload_n 3, 1) := by decide +kernel
theorem dX10_book_82 : decode cX10_book 82 = .ok (.ifCond .ne 21, 3) := by decide +kernel
theorem dX10_book_85 : decode cX10_book 85 = .ok (.aload_n 0, 1) := by decide +kernel
theorem dX10_book_86 : decode cX10_book 86 = .ok (.iconst 3, 1) := by decide +kernel
theorem dX10_book_87 : decode cX10_book 87 = .ok (.iload_n 2, 1) := by decide +kernel
theorem dX10_book_88 : decode cX10_book 88 = .ok (.imul, 1) := by decide +kernel
theorem dX10_book_89 : decode cX10_book 89 = .ok (.invokevirtual 415, 3) := by decide +kernel
theorem dX10_book_92 : decode cX10_book 92 = .ok (.istore_n 3, 1) := by decide +kernel
theorem dX10_book_93 : decode cX10_book 93 = .ok (.iload_n 3, 1) := by decide +kernel
theorem dX10_book_94 : decode cX10_book 94 = .ok (.ifCond .ne (-21), 3) := by decide +kernel
theorem dX10_book_97 : decode cX10_book 97 = .ok (.iinc 2 1, 3) := by decide +kernel
theorem dX10_book_100 : decode cX10_book 100 = .ok (.goto (-27), 3) := by decide +kernel
theorem dX10_book_103 : decode cX10_book 103 = .ok (.aload_n 0, 1) := by decide +kernel
theorem dX10_book_104 : decode cX10_book 104 = .ok (.getfield 163, 3) := by decide +kernel
theorem dX10_book_107 : decode cX10_book 107 = .ok (.iconst 0, 1) := by decide +kernel
theorem dX10_book_108 : decode cX10_book 108 = .ok (.iload_n 3, 1) := by decide +kernel
theorem dX10_book_109 : decode cX10_book 109 = .ok (.iastore, 1) := by decide +kernel
theorem dX10_book_110 : decode cX10_book 110 = .ok (.aload_n 0, 1) := by decide +kernel
theorem dX10_book_111 : decode cX10_book 111 = .ok (.getfield 163, 3) := by decide +kernel
theorem dX10_book_114 : decode cX10_book 114 = .ok (.iconst 1, 1) := by decide +kernel
theorem dX10_book_115 : decode cX10_book 115 = .ok (.iload_n 2, 1) := by decide +kernel
theorem dX10_book_116 : decode cX10_book 116 = .ok (.iastore, 1) := by decide +kernel
theorem dX10_book_117 : decode cX10_book 117 = .ok (.aload_n 0, 1) := by decide +kernel
theorem dX10_book_118 : decode cX10_book 118 = .ok (.getfield 163, 3) := by decide +kernel
theorem dX10_book_121 : decode cX10_book 121 = .ok (.iconst 2, 1) := by decide +kernel
theorem dX10_book_122 : decode cX10_book 122 = .ok (.aload_n 0, 1) := by decide +kernel
theorem dX10_book_123 : decode cX10_book 123 = .ok (.getfield 98, 3) := by decide +kernel
theorem dX10_book_126 : decode cX10_book 126 = .ok (.bipush 84, 2) := by decide +kernel
theorem dX10_book_128 : decode cX10_book 128 = .ok (.iaload, 1) := by decide +kernel
theorem dX10_book_129 : decode cX10_book 129 = .ok (.iastore, 1) := by decide +kernel
theorem dX10_book_130 : decode cX10_book 130 = .ok (.aload_n 0, 1) := by decide +kernel
theorem dX10_book_131 : decode cX10_book 131 = .ok (.getfield 163, 3) := by decide +kernel
theorem dX10_book_134 : decode cX10_book 134 = .ok (.iconst 3, 1) := by decide +kernel
theorem dX10_book_135 : decode cX10_book 135 = .ok (.aload_n 0, 1) := by decide +kernel
theorem dX10_book_136 : decode cX10_book 136 = .ok (.invokevirtual 277, 3) := by decide +kernel
theorem dX10_book_139 : decode cX10_book 139 = .ok (.iastore, 1) := by decide +kernel
theorem dX10_book_140 : decode cX10_book 140 = .ok (.aload_n 0, 1) := by decide +kernel
theorem dX10_book_141 : decode cX10_book 141 = .ok (.iconst 1, 1) := by decide +kernel
theorem dX10_book_142 : decode cX10_book 142 = .ok (.putfield 418, 3) := by decide +kernel
theorem dX10_book_145 : decode cX10_book 145 = .ok (.aload_n 0, 1) := by decide +kernel
theorem dX10_book_146 : decode cX10_book 146 = .ok (.iload_n 1, 1) := by decide +kernel
theorem dX10_book_147 : decode cX10_book 147 = .ok (.iconst 1, 1) := by decide +kernel
theorem dX10_book_148 : decode cX10_book 148 = .ok (.if_icmp .ne 11, 3) := by decide +kernel
theorem dX10_book_151 : decode cX10_book 151 = .ok (.iload_n 2, 1) := by decide +kernel
theorem dX10_book_152 : decode cX10_book 152 = .ok (.ifCond .le 7, 3) := by decide +kernel
theorem dX10_book_155 : decode cX10_book 155 = .ok (.iconst 1, 1) := by decide +kernel
theorem dX10_book_156 : decode cX10_book 156 = .ok (.goto 4, 3) := by decide +kernel
theorem dX10_book_159 : decode cX10_book 159 = .ok (.iconst 0, 1) := by decide +kernel
theorem dX10_book_160 : decode cX10_book 160 = .ok (.invokevirtual 421, 3) := by decide +kernel
theorem dX10_book_163 : decode cX10_book 163 = .ok (.iload_n 3, 1) := by decide +kernel
theorem dX10_book_164 : decode cX10_book 164 = .ok (.ifCond .ne 7, 3) := by decide +kernel
theorem dX10_book_167 : decode cX10_book 167 = .ok (.iconst (-1), 1) := by decide +kernel
theorem dX10_book_168 : decode cX10_book 168 = .ok (.goto 4, 3) := by decide +kernel
theorem dX10_book_171 : decode cX10_book 171 = .ok (.iload_n 2, 1) := by decide +kernel
theorem dX10_book_172 : decode cX10_book 172 = .ok (.ireturn, 1) := by decide +kernel
theorem dX10_goBy_0 : decode cX10_goBy 0 = .ok (.aload_n 0, 1) := by decide +kernel
theorem dX10_goBy_1 : decode cX10_goBy 1 = .ok (.getfield 160, 3) := by decide +kernel
theorem dX10_goBy_4 : decode cX10_goBy 4 = .ok (.iload_n 1, 1) := by decide +kernel
theorem dX10_goBy_5 : decode cX10_goBy 5 = .ok (.iconst 1, 1) := by decide +kernel
theorem dX10_goBy_6 : decode cX10_goBy 6 = .ok (.iadd, 1) := by decide +kernel
theorem dX10_goBy_7 : decode cX10_goBy 7 = .ok (.iaload, 1) := by decide +kernel
theorem dX10_goBy_8 : decode cX10_goBy 8 = .ok (.istore_n 2, 1) := by decide +kernel
theorem dX10_goBy_9 : decode cX10_goBy 9 = .ok (.aload_n 0, 1) := by decide +kernel
theorem dX10_goBy_10 : decode cX10_goBy 10 = .ok (.getfield 160, 3) := by decide +kernel
theorem dX10_goBy_13 : decode cX10_goBy 13 = .ok (.iload_n 1, 1) := by decide +kernel
theorem dX10_goBy_14 : decode cX10_goBy 14 = .ok (.iaload, 1) := by decide +kernel
theorem dX10_goBy_15 : decode cX10_goBy 15 = .ok (.bipush 6, 2) := by decide +kernel
theorem dX10_goBy_17 : decode cX10_goBy 17 = .ok (.if_icmp .ne 29, 3) := by decide +kernel
theorem dX10_goBy_20 : decode cX10_goBy 20 = .ok (.aload_n 0, 1) := by decide +kernel
theorem dX10_goBy_21 : decode cX10_goBy 21 = .ok (.getfield 98, 3) := by decide +kernel
theorem dX10_goBy_24 : decode cX10_goBy 24 = .ok (.bipush 84, 2) := by decide +kernel
theorem dX10_goBy_26 : decode cX10_goBy 26 = .ok (.iaload, 1) := by decide +kernel
theorem dX10_goBy_27 : decode cX10_goBy 27 = .ok (.iload_n 2, 1) := by decide +kernel
theorem dX10_goBy_28 : decode cX10_goBy 28 = .ok (.iadd, 1) := by decide +kernel
theorem dX10_goBy_29 : decode cX10_goBy 29 = .ok (.sipush 400, 3) := by decide +kernel
theorem dX10_goBy_32 : decode cX10_goBy 32 = .ok (.if_icmp .le 6, 3) := by decide +kernel
theorem dX10_goBy_35 : decode cX10_goBy 35 = .ok (.bipush 61, 2) := by decide +kernel
theorem dX10_goBy_37 : decode cX10_goBy 37 = .ok (.ireturn, 1) := by decide +kernel
theorem dX10_goBy_38 : decode cX10_goBy 38 = .ok (.aload_n 0, 1) := by decide +kernel
theorem dX10_goBy_39 : decode cX10_goBy 39 = .ok (.iload_n 2, 1) := by decide +kernel
theorem dX10_goBy_40 : decode cX10_goBy 40 = .ok (.invokevirtual 325, 3) := by decide +kernel
theorem dX10_goBy_43 : decode cX10_goBy 43 = .ok (.pop, 1) := by decide +kernel
theorem dX10_goBy_44 : decode cX10_goBy 44 = .ok (.iconst 0, 1) := by decide +kernel
theorem dX10_goBy_45 : decode cX10_goBy 45 = .ok (.ireturn, 1) := by decide +kernel
theorem dX10_goBy_46 : decode cX10_goBy 46 = .ok (.aload_n 0, 1) := by decide +kernel
theorem dX10_goBy_47 : decode cX10_goBy 47 = .ok (.aload_n 0, 1) := by decide +kernel
theorem dX10_goBy_48 : decode cX10_goBy 48 = .ok (.getfield 160, 3) := by decide +kernel
theorem dX10_goBy_51 : decode cX10_goBy 51 = .ok (.iload_n 1, 1) := by decide +kernel
theorem dX10_goBy_52 : decode cX10_goBy 52 = .ok (.iaload, 1) := by decide +kernel
theorem dX10_goBy_53 : decode cX10_goBy 53 = .ok (.iload_n 2, 1) := by decide +kernel
theorem dX10_goBy_54 : decode cX10_goBy 54 = .ok (.aload_n 0, 1) := by decide +kernel
theorem dX10_goBy_55 : decode cX10_goBy 55 = .ok (.getfield 160, 3) := by decide +kernel
theorem dX10_goBy_58 : decode cX10_goBy 58 = .ok (.iload_n 1, 1) := by decide +kernel
theorem dX10_goBy_59 : decode cX10_goBy 59 = .ok (.iconst 2, 1) := by decide +kernel
theorem dX10_goBy_60 : decode cX10_goBy 60 = .ok (.iadd, 1) := by decide +kernel
theorem dX10_goBy_61 : decode cX10_goBy 61 = .ok (.iaload, 1) := by decide +kernel
theorem dX10_goBy_62 : decode cX10_goBy 62 = .ok (.invokevirtual 297, 3) := by decide +kernel
theorem dX10_goBy_65 : decode cX10_goBy 65 = .ok (.istore_n 3, 1) := by decide +kernel
theorem dX10_goBy_66 : decode cX10_goBy 66 = .ok (.iload_n 3, 1) := by decide +kernel
theorem dX10_goBy_67 : decode cX10_goBy 67 = .ok (.ifCond .eq 15, 3) := by decide +kernel
theorem dX10_goBy_70 : decode cX10_goBy 70 = .ok (.bipush 10, 2) := by decide +kernel
theorem dX10_goBy_72 : decode cX10_goBy 72 = .ok (.aload_n 0, 1) := by decide +kernel
theorem dX10_goBy_73 : decode cX10_goBy 73 = .ok (.getfield 160, 3) := by decide +kernel
theorem dX10_goBy_76 : decode cX10_goBy 76 = .ok (.iload_n 1, 1) := by decide +kernel
theorem dX10_goBy_77 : decode cX10_goBy 77 = .ok (.iaload, 1) := by decide +kernel
theorem dX10_goBy_78 : decode cX10_goBy 78 = .ok (.imul, 1) := by decide +kernel
theorem dX10_goBy_79 : decode cX10_goBy 79 = .ok (.iload_n 3, 1) := by decide +kernel
theorem dX10_goBy_80 : decode cX10_goBy 80 = .ok (.iadd, 1) := by decide +kernel
theorem dX10_goBy_81 : decode cX10_goBy 81 = .ok (.ireturn, 1) := by decide +kernel
theorem dX10_goBy_82 : decode cX10_goBy 82 = .ok (.aload_n 0, 1) := by decide +kernel
theorem dX10_goBy_83 : decode cX10_goBy 83 = .ok (.aload_n 0, 1) := by decide +kernel
theorem dX10_goBy_84 : decode cX10_goBy 84 = .ok (.getfield 160, 3) := by decide +kernel
theorem dX10_goBy_87 : decode cX10_goBy 87 = .ok (.iload_n 1, 1) := by decide +kernel
theorem dX10_goBy_88 : decode cX10_goBy 88 = .ok (.iaload, 1) := by decide +kernel
theorem dX10_goBy_89 : decode cX10_goBy 89 = .ok (.iload_n 2, 1) := by decide +kernel
theorem dX10_goBy_90 : decode cX10_goBy 90 = .ok (.aload_n 0, 1) := by decide +kernel
theorem dX10_goBy_91 : decode cX10_goBy 91 = .ok (.getfield 160, 3) := by decide +kernel
theorem dX10_goBy_94 : decode cX10_goBy 94 = .ok (.iload_n 1, 1) := by decide +kernel
theorem dX10_goBy_95 : decode cX10_goBy 95 = .ok (.iconst 2, 1) := by decide +kernel
theorem dX10_goBy_96 : decode cX10_goBy 96 = .ok (.iadd, 1) := by decide +kernel
theorem dX10_goBy_97 : decode cX10_goBy 97 = .ok (.iaload, 1) := by decide +kernel
theorem dX10_goBy_98 : decode cX10_goBy 98 = .ok (.invokevirtual 304, 3) := by decide +kernel
theorem dX10_goBy_101 : decode cX10_goBy 101 = .ok (.iconst 0, 1) := by decide +kernel
theorem dX10_goBy_102 : decode cX10_goBy 102 = .ok (.ireturn, 1) := by decide +kernel
theorem dX10_keep_0 : decode cX10_keep 0 = .ok (.iload_n 2, 1) := by decide +kernel
theorem dX10_keep_1 : decode cX10_keep 1 = .ok (.ifCond .eq 13, 3) := by decide +kernel
theorem dX10_keep_4 : decode cX10_keep 4 = .ok (.aload_n 0, 1) := by decide +kernel
theorem dX10_keep_5 : decode cX10_keep 5 = .ok (.getfield 160, 3) := by decide +kernel
theorem dX10_keep_8 : decode cX10_keep 8 = .ok (.iload_n 1, 1) := by decide +kernel
theorem dX10_keep_9 : decode cX10_keep 9 = .ok (.aload_n 0, 1) := by decide +kernel
theorem dX10_keep_10 : decode cX10_keep 10 = .ok (.getfield 79, 3) := by decide +kernel
theorem dX10_keep_13 : decode cX10_keep 13 = .ok (.iastore, 1) := by decide +kernel
theorem dX10_keep_14 : decode cX10_keep 14 = .ok (.iload_n 2, 1) := by decide +kernel
theorem dX10_keep_15 : decode cX10_keep 15 = .ok (.ireturn, 1) := by decide +kernel
theorem dX10_readBookLine_0 : decode cX10_readBookLine 0 = .ok (.aload_n 0, 1) := by decide +kernel
theorem dX10_readBookLine_1 : decode cX10_readBookLine 1 = .ok (.bipush 13, 2) := by decide +kernel
theorem dX10_readBookLine_3 : decode cX10_readBookLine 3 = .ok (.invokevirtual 206, 3) := by decide +kernel
theorem dX10_readBookLine_6 : decode cX10_readBookLine 6 = .ok (.istore_n 1, 1) := by decide +kernel
theorem dX10_readBookLine_7 : decode cX10_readBookLine 7 = .ok (.aload_n 0, 1) := by decide +kernel
theorem dX10_readBookLine_8 : decode cX10_readBookLine 8 = .ok (.bipush 14, 2) := by decide +kernel
theorem dX10_readBookLine_10 : decode cX10_readBookLine 10 = .ok (.invokevirtual 206, 3) := by decide +kernel
theorem dX10_readBookLine_13 : decode cX10_readBookLine 13 = .ok (.istore_n 2, 1) := by decide +kernel
theorem dX10_readBookLine_14 : decode cX10_readBookLine 14 = .ok (.aload_n 0, 1) := by decide +kernel
theorem dX10_readBookLine_15 : decode cX10_readBookLine 15 = .ok (.bipush 15, 2) := by decide +kernel
theorem dX10_readBookLine_17 : decode cX10_readBookLine 17 = .ok (.invokevirtual 206, 3) := by decide +kernel
theorem dX10_readBookLine_20 : decode cX10_readBookLine 20 = .ok (.istore_n 3, 1) := by decide +kernel
theorem dX10_readBookLine_21 : decode cX10_readBookLine 21 = .ok (.iload_n 1, 1) := by decide +kernel
theorem dX10_readBookLine_22 : decode cX10_readBookLine 22 = .ok (.ifCond .ne 15, 3) := by decide +kernel
theorem dX10_readBookLine_25 : decode cX10_readBookLine 25 = .ok (.iload_n 2, 1) := by decide +kernel
theorem dX10_readBookLine_26 : decode cX10_readBookLine 26 = .ok (.ifCond .ne 11, 3) := by decide +kernel
theorem dX10_readBookLine_29 : decode cX10_readBookLine 29 = .ok (.iload_n 3, 1) := by decide +kernel
theorem dX10_readBookLine_30 : decode cX10_readBookLine 30 = .ok (.ifCond .ne 7, 3) := by decide +kernel
theorem dX10_readBookLine_33 : decode cX10_readBookLine 33 = .ok (.iconst 1, 1) := by decide +kernel
theorem dX10_readBookLine_34 : decode cX10_readBookLine 34 = .ok (.goto 4, 3) := by decide +kernel
theorem dX10_readBookLine_37 : decode cX10_readBookLine 37 = .ok (.iconst 0, 1) := by decide +kernel
theorem dX10_readBookLine_38 : decode cX10_readBookLine 38 = .ok (.istore 4, 2) := by decide +kernel
theorem dX10_readBookLine_40 : decode cX10_readBookLine 40 = .ok (.iload 4, 2) := by decide +kernel
theorem dX10_readBookLine_42 : decode cX10_readBookLine 42 = .ok (.ifCond .eq 45, 3) := by decide +kernel
theorem dX10_readBookLine_45 : decode cX10_readBookLine 45 = .ok (.aload_n 0, 1) := by decide +kernel
theorem dX10_readBookLine_46 : decode cX10_readBookLine 46 = .ok (.invokevirtual 173, 3) := by decide +kernel
theorem dX10_readBookLine_49 : decode cX10_readBookLine 49 = .ok (.ifCond .ne 9, 3) := by decide +kernel
theorem dX10_readBookLine_52 : decode cX10_readBookLine 52 = .ok (.aload_n 0, 1) := by decide +kernel
theorem dX10_readBookLine_53 : decode cX10_readBookLine 53 = .ok (.iconst 1, 1) := by decide +kernel
theorem dX10_readBookLine_54 : decode cX10_readBookLine 54 = .ok (.invokevirtual 72, 3) := by decide +kernel
theorem dX10_readBookLine_57 : decode cX10_readBookLine 57 = .ok (.ireturn, 1) := by decide +kernel
theorem dX10_readBookLine_58 : decode cX10_readBookLine 58 = .ok (.aload_n 0, 1) := by decide +kernel
theorem dX10_readBookLine_59 : decode cX10_readBookLine 59 = .ok (.getfield 116, 3) := by decide +kernel
theorem dX10_readBookLine_62 : decode cX10_readBookLine 62 = .ok (.bipush 16, 2) := by decide +kernel
theorem dX10_readBookLine_64 : decode cX10_readBookLine 64 = .ok (.aload_n 0, 1) := by decide +kernel
theorem dX10_readBookLine_65 : decode cX10_readBookLine 65 = .ok (.getfield 98, 3) := by decide +kernel
theorem dX10_readBookLine_68 : decode cX10_readBookLine 68 = .ok (.iconst 3, 1) := by decide +kernel
theorem dX10_readBookLine_69 : decode cX10_readBookLine 69 = .ok (.iaload, 1) := by decide +kernel
theorem dX10_readBookLine_70 : decode cX10_readBookLine 70 = .ok (.aload_n 0, 1) := by decide +kernel
theorem dX10_readBookLine_71 : decode cX10_readBookLine 71 = .ok (.getfield 43, 3) := by decide +kernel
theorem dX10_readBookLine_74 : decode cX10_readBookLine 74 = .ok (.invokestatic 169, 3) := by decide +kernel
theorem dX10_readBookLine_77 : decode cX10_readBookLine 77 = .ok (.iconst (-1), 1) := by decide +kernel
theorem dX10_readBookLine_78 : decode cX10_readBookLine 78 = .ok (.if_icmp .ne 9, 3) := by decide +kernel
theorem dX10_readBookLine_81 : decode cX10_readBookLine 81 = .ok (.aload_n 0, 1) := by decide +kernel
theorem dX10_readBookLine_82 : decode cX10_readBookLine 82 = .ok (.iconst 3, 1) := by decide +kernel
theorem dX10_readBookLine_83 : decode cX10_readBookLine 83 = .ok (.invokevirtual 72, 3) := by decide +kernel
theorem dX10_readBookLine_86 : decode cX10_readBookLine 86 = .ok (.ireturn, 1) := by decide +kernel
theorem dX10_readBookLine_87 : decode cX10_readBookLine 87 = .ok (.aload_n 0, 1) := by decide +kernel
theorem dX10_readBookLine_88 : decode cX10_readBookLine 88 = .ok (.getfield 406, 3) := by decide +kernel
theorem dX10_readBookLine_91 : decode cX10_readBookLine 91 = .ok (.bipush 40, 2) := by decide +kernel
theorem dX10_readBookLine_93 : decode cX10_readBookLine 93 = .ok (.if_icmp .ne 9, 3) := by decide +kernel
theorem dX10_readBookLine_96 : decode cX10_readBookLine 96 = .ok (.aload_n 0, 1) := by decide +kernel
theorem dX10_readBookLine_97 : decode cX10_readBookLine 97 = .ok (.iconst 4, 1) := by decide +kernel
theorem dX10_readBookLine_98 : decode cX10_readBookLine 98 = .ok (.invokevirtual 72, 3) := by decide +kernel
theorem dX10_readBookLine_101 : decode cX10_readBookLine 101 = .ok (.ireturn, 1) := by decide +kernel
theorem dX10_readBookLine_102 : decode cX10_readBookLine 102 = .ok (.iconst 3, 1) := by decide +kernel
theorem dX10_readBookLine_103 : decode cX10_readBookLine 103 = .ok (.aload_n 0, 1) := by decide +kernel
theorem dX10_readBookLine_104 : decode cX10_readBookLine 104 = .ok (.getfield 406, 3) := by decide +kernel
theorem dX10_readBookLine_107 : decode cX10_readBookLine 107 = .ok (.imul, 1) := by decide +kernel
theorem dX10_readBookLine_108 : decode cX10_readBookLine 108 = .ok (.istore 5, 2) := by decide +kernel
theorem dX10_readBookLine_110 : decode cX10_readBookLine 110 = .ok (.aload_n 0, 1) := by decide +kernel
theorem dX10_readBookLine_111 : decode cX10_readBookLine 111 = .ok (.getfield 160, 3) := by decide +kernel
theorem dX10_readBookLine_114 : decode cX10_readBookLine 114 = .ok (.iload 5, 2) := by decide +kernel
theorem dX10_readBookLine_116 : decode cX10_readBookLine 116 = .ok (.iload_n 1, 1) := by decide +kernel
theorem dX10_readBookLine_117 : decode cX10_readBookLine 117 = .ok (.ifCond .eq 7, 3) := by decide +kernel
theorem dX10_readBookLine_120 : decode cX10_readBookLine 120 = .ok (.iconst 4, 1) := by decide +kernel
theorem dX10_readBookLine_121 : decode cX10_readBookLine 121 = .ok (.goto 13, 3) := by decide +kernel
theorem dX10_readBookLine_124 : decode cX10_readBookLine 124 = .ok (.iload_n 2, 1) := by decide +kernel
theorem dX10_readBookLine_125 : decode cX10_readBookLine 125 = .ok (.ifCond .eq 7, 3) := by decide +kernel
theorem dX10_readBookLine_128 : decode cX10_readBookLine 128 = .ok (.iconst 5, 1) := by decide +kernel
theorem dX10_readBookLine_129 : decode cX10_readBookLine 129 = .ok (.goto 5, 3) := by decide +kernel
theorem dX10_readBookLine_132 : decode cX10_readBookLine 132 = .ok (.bipush 6, 2) := by decide +kernel
theorem dX10_readBookLine_134 : decode cX10_readBookLine 134 = .ok (.iastore, 1) := by decide +kernel
theorem dX10_readBookLine_135 : decode cX10_readBookLine 135 = .ok (.aload_n 0, 1) := by decide +kernel
theorem dX10_readBookLine_136 : decode cX10_readBookLine 136 = .ok (.getfield 160, 3) := by decide +kernel
theorem dX10_readBookLine_139 : decode cX10_readBookLine 139 = .ok (.iload 5, 2) := by decide +kernel
theorem dX10_readBookLine_141 : decode cX10_readBookLine 141 = .ok (.iconst 1, 1) := by decide +kernel
theorem dX10_readBookLine_142 : decode cX10_readBookLine 142 = .ok (.iadd, 1) := by decide +kernel
theorem dX10_readBookLine_143 : decode cX10_readBookLine 143 = .ok (.iload 4, 2) := by decide +kernel
theorem dX10_readBookLine_145 : decode cX10_readBookLine 145 = .ok (.ifCond .eq 25, 3) := by decide +kernel
theorem dX10_readBookLine_148 : decode cX10_readBookLine 148 = .ok (.aload_n 0, 1) := by decide +kernel
theorem dX10_readBookLine_149 : decode cX10_readBookLine 149 = .ok (.getfield 116, 3) := by decide +kernel
theorem dX10_readBookLine_152 : decode cX10_readBookLine 152 = .ok (.bipush 16, 2) := by decide +kernel
theorem dX10_readBookLine_154 : decode cX10_readBookLine 154 = .ok (.aload_n 0, 1) := by decide +kernel
theorem dX10_readBookLine_155 : decode cX10_readBookLine 155 = .ok (.getfield 98, 3) := by decide +kernel
theorem dX10_readBookLine_158 : decode cX10_readBookLine 158 = .ok (.iconst 3, 1) := by decide +kernel
theorem dX10_readBookLine_159 : decode cX10_readBookLine 159 = .ok (.iaload, 1) := by decide +kernel
theorem dX10_readBookLine_160 : decode cX10_readBookLine 160 = .ok (.aload_n 0, 1) := by decide +kernel
theorem dX10_readBookLine_161 : decode cX10_readBookLine 161 = .ok (.getfield 43, 3) := by decide +kernel
theorem dX10_readBookLine_164 : decode cX10_readBookLine 164 = .ok (.invokestatic 169, 3) := by decide +kernel
theorem dX10_readBookLine_167 : decode cX10_readBookLine 167 = .ok (.goto 4, 3) := by decide +kernel
theorem dX10_readBookLine_170 : decode cX10_readBookLine 170 = .ok (.iconst 0, 1) := by decide +kernel
theorem dX10_readBookLine_171 : decode cX10_readBookLine 171 = .ok (.iastore, 1) := by decide +kernel
theorem dX10_readBookLine_172 : decode cX10_readBookLine 172 = .ok (.aload_n 0, 1) := by decide +kernel
theorem dX10_readBookLine_173 : decode cX10_readBookLine 173 = .ok (.getfield 160, 3) := by decide +kernel
theorem dX10_readBookLine_176 : decode cX10_readBookLine 176 = .ok (.iload 5, 2) := by decide +kernel
theorem dX10_readBookLine_178 : decode cX10_readBookLine 178 = .ok (.iconst 2, 1) := by decide +kernel
theorem dX10_readBookLine_179 : decode cX10_readBookLine 179 = .ok (.iadd, 1) := by decide +kernel
theorem dX10_readBookLine_180 : decode cX10_readBookLine 180 = .ok (.iconst 0, 1) := by decide +kernel
theorem dX10_readBookLine_181 : decode cX10_readBookLine 181 = .ok (.iastore, 1) := by decide +kernel
theorem dX10_readBookLine_182 : decode cX10_readBookLine 182 = .ok (.aload_n 0, 1) := by decide +kernel
theorem dX10_readBookLine_183 : decode cX10_readBookLine 183 = .ok (.invokevirtual 82, 3) := by decide +kernel
theorem dX10_readBookLine_186 : decode cX10_readBookLine 186 = .ok (.iload 4, 2) := by decide +kernel
theorem dX10_readBookLine_188 : decode cX10_readBookLine 188 = .ok (.ifCond .eq 25, 3) := by decide +kernel
theorem dX10_readBookLine_191 : decode cX10_readBookLine 191 = .ok (.aload_n 0, 1) := by decide +kernel
theorem dX10_readBookLine_192 : decode cX10_readBookLine 192 = .ok (.iload 5, 2) := by decide +kernel
theorem dX10_readBookLine_194 : decode cX10_readBookLine 194 = .ok (.invokevirtual 409, 3) := by decide +kernel
theorem dX10_readBookLine_197 : decode cX10_readBookLine 197 = .ok (.ifCond .eq 14, 3) := by decide +kernel
theorem dX10_readBookLine_200 : decode cX10_readBookLine 200 = .ok (.aload_n 0, 1) := by decide +kernel
theorem dX10_readBookLine_201 : decode cX10_readBookLine 201 = .ok (.invokevirtual 240, 3) := by decide +kernel
theorem dX10_readBookLine_204 : decode cX10_readBookLine 204 = .ok (.ifCond .eq 7, 3) := by decide +kernel
theorem dX10_readBookLine_207 : decode cX10_readBookLine 207 = .ok (.iconst 1, 1) := by decide +kernel
theorem dX10_readBookLine_208 : decode cX10_readBookLine 208 = .ok (.goto 4, 3) := by decide +kernel
theorem dX10_readBookLine_211 : decode cX10_readBookLine 211 = .ok (.iconst 0, 1) := by decide +kernel
theorem dX10_readBookLine_212 : decode cX10_readBookLine 212 = .ok (.ireturn, 1) := by decide +kernel
theorem dX10_readBookLine_213 : decode cX10_readBookLine 213 = .ok (.iload_n 3, 1) := by decide +kernel
theorem dX10_readBookLine_214 : decode cX10_readBookLine 214 = .ok (.ifCond .eq 34, 3) := by decide +kernel
theorem dX10_readBookLine_217 : decode cX10_readBookLine 217 = .ok (.aload_n 0, 1) := by decide +kernel
theorem dX10_readBookLine_218 : decode cX10_readBookLine 218 = .ok (.iload 5, 2) := by decide +kernel
theorem dX10_readBookLine_220 : decode cX10_readBookLine 220 = .ok (.iconst 1, 1) := by decide +kernel
theorem dX10_readBookLine_221 : decode cX10_readBookLine 221 = .ok (.iadd, 1) := by decide +kernel
theorem dX10_readBookLine_222 : decode cX10_readBookLine 222 = .ok (.aload_n 0, 1) := by decide +kernel
theorem dX10_readBookLine_223 : decode cX10_readBookLine 223 = .ok (.iconst 1, 1) := by decide +kernel
theorem dX10_readBookLine_224 : decode cX10_readBookLine 224 = .ok (.bipush 60, 2) := by decide +kernel
theorem dX10_readBookLine_226 : decode cX10_readBookLine 226 = .ok (.invokevirtual 193, 3) := by decide +kernel
theorem dX10_readBookLine_229 : decode cX10_readBookLine 229 = .ok (.invokevirtual 400, 3) := by decide +kernel
theorem dX10_readBookLine_232 : decode cX10_readBookLine 232 = .ok (.ifCond .eq 14, 3) := by decide +kernel
theorem dX10_readBookLine_235 : decode cX10_readBookLine 235 = .ok (.aload_n 0, 1) := by decide +kernel
theorem dX10_readBookLine_236 : decode cX10_readBookLine 236 = .ok (.invokevirtual 240, 3) := by decide +kernel
theorem dX10_readBookLine_239 : decode cX10_readBookLine 239 = .ok (.ifCond .eq 7, 3) := by decide +kernel
theorem dX10_readBookLine_242 : decode cX10_readBookLine 242 = .ok (.iconst 1, 1) := by decide +kernel
theorem dX10_readBookLine_243 : decode cX10_readBookLine 243 = .ok (.goto 4, 3) := by decide +kernel
theorem dX10_readBookLine_246 : decode cX10_readBookLine 246 = .ok (.iconst 0, 1) := by decide +kernel
theorem dX10_readBookLine_247 : decode cX10_readBookLine 247 = .ok (.ireturn, 1) := by decide +kernel
theorem dX10_readBookLine_248 : decode cX10_readBookLine 248 = .ok (.aload_n 0, 1) := by decide +kernel
theorem dX10_readBookLine_249 : decode cX10_readBookLine 249 = .ok (.iload 5, 2) := by decide +kernel
theorem dX10_readBookLine_251 : decode cX10_readBookLine 251 = .ok (.iconst 1, 1) := by decide +kernel
theorem dX10_readBookLine_252 : decode cX10_readBookLine 252 = .ok (.iadd, 1) := by decide +kernel
theorem dX10_readBookLine_253 : decode cX10_readBookLine 253 = .ok (.aload_n 0, 1) := by decide +kernel
theorem dX10_readBookLine_254 : decode cX10_readBookLine 254 = .ok (.invokevirtual 397, 3) := by decide +kernel
theorem dX10_readBookLine_257 : decode cX10_readBookLine 257 = .ok (.invokevirtual 400, 3) := by decide +kernel
theorem dX10_readBookLine_260 : decode cX10_readBookLine 260 = .ok (.ifCond .ne 5, 3) := by decide +kernel
theorem dX10_readBookLine_263 : decode cX10_readBookLine 263 = .ok (.iconst 0, 1) := by decide +kernel
theorem dX10_readBookLine_264 : decode cX10_readBookLine 264 = .ok (.ireturn, 1) := by decide +kernel
theorem dX10_readBookLine_265 : decode cX10_readBookLine 265 = .ok (.iload_n 1, 1) := by decide +kernel
theorem dX10_readBookLine_266 : decode cX10_readBookLine 266 = .ok (.ifCond .ne 26, 3) := by decide +kernel
theorem dX10_readBookLine_269 : decode cX10_readBookLine 269 = .ok (.aload_n 0, 1) := by decide +kernel
theorem dX10_readBookLine_270 : decode cX10_readBookLine 270 = .ok (.iload 5, 2) := by decide +kernel
theorem dX10_readBookLine_272 : decode cX10_readBookLine 272 = .ok (.iconst 2, 1) := by decide +kernel
theorem dX10_readBookLine_273 : decode cX10_readBookLine 273 = .ok (.iadd, 1) := by decide +kernel
theorem dX10_readBookLine_274 : decode cX10_readBookLine 274 = .ok (.aload_n 0, 1) := by decide +kernel
theorem dX10_readBookLine_275 : decode cX10_readBookLine 275 = .ok (.bipush 6, 2) := by decide +kernel
theorem dX10_readBookLine_277 : decode cX10_readBookLine 277 = .ok (.aload_n 0, 1) := by decide +kernel
theorem dX10_readBookLine_278 : decode cX10_readBookLine 278 = .ok (.getfield 98, 3) := by decide +kernel
theorem dX10_readBookLine_281 : decode cX10_readBookLine 281 = .ok (.iconst 1, 1) := by decide +kernel
theorem dX10_readBookLine_282 : decode cX10_readBookLine 282 = .ok (.iaload, 1) := by decide +kernel
theorem dX10_readBookLine_283 : decode cX10_readBookLine 283 = .ok (.invokevirtual 394, 3) := by decide +kernel
theorem dX10_readBookLine_286 : decode cX10_readBookLine 286 = .ok (.invokevirtual 400, 3) := by decide +kernel
theorem dX10_readBookLine_289 : decode cX10_readBookLine 289 = .ok (.ifCond .eq 14, 3) := by decide +kernel
theorem dX10_readBookLine_292 : decode cX10_readBookLine 292 = .ok (.aload_n 0, 1) := by decide +kernel
theorem dX10_readBookLine_293 : decode cX10_readBookLine 293 = .ok (.invokevirtual 240, 3) := by decide +kernel
theorem dX10_readBookLine_296 : decode cX10_readBookLine 296 = .ok (.ifCond .eq 7, 3) := by decide +kernel
theorem dX10_readBookLine_299 : decode cX10_readBookLine 299 = .ok (.iconst 1, 1) := by decide +kernel
theorem dX10_readBookLine_300 : decode cX10_readBookLine 300 = .ok (.goto 4, 3) := by decide +kernel
theorem dX10_readBookLine_303 : decode cX10_readBookLine 303 = .ok (.iconst 0, 1) := by decide +kernel
theorem dX10_readBookLine_304 : decode cX10_readBookLine 304 = .ok (.ireturn, 1) := by decide +kernel
theorem dX10_readDoes_0 : decode cX10_readDoes 0 = .ok (.bipush 9, 2) := by decide +kernel
theorem dX10_readDoes_2 : decode cX10_readDoes 2 = .ok (.istore_n 2, 1) := by decide +kernel
theorem dX10_readDoes_3 : decode cX10_readDoes 3 = .ok (.iload_n 2, 1) := by decide +kernel
theorem dX10_readDoes_4 : decode cX10_readDoes 4 = .ok (.bipush 12, 2) := by decide +kernel
theorem dX10_readDoes_6 : decode cX10_readDoes 6 = .ok (.if_icmp .gt 17, 3) := by decide +kernel
theorem dX10_readDoes_9 : decode cX10_readDoes 9 = .ok (.aload_n 0, 1) := by decide +kernel
theorem dX10_readDoes_10 : decode cX10_readDoes 10 = .ok (.iload_n 2, 1) := by decide +kernel
theorem dX10_readDoes_11 : decode cX10_readDoes 11 = .ok (.invokevirtual 206, 3) := by decide +kernel
theorem dX10_readDoes_14 : decode cX10_readDoes 14 = .ok (.ifCond .ne 9, 3) := by decide +kernel
theorem dX10_readDoes_17 : decode cX10_readDoes 17 = .ok (.iinc 2 1, 3) := by decide +kernel
theorem dX10_readDoes_20 : decode cX10_readDoes 20 = .ok (.goto (-17), 3) := by decide +kernel
theorem dX10_readDoes_23 : decode cX10_readDoes 23 = .ok (.iload_n 2, 1) := by decide +kernel
theorem dX10_readDoes_24 : decode cX10_readDoes 24 = .ok (.bipush 12, 2) := by decide +kernel
theorem dX10_readDoes_26 : decode cX10_readDoes 26 = .ok (.if_icmp .le 9, 3) := by decide +kernel
theorem dX10_readDoes_29 : decode cX10_readDoes 29 = .ok (.aload_n 0, 1) := by decide +kernel
theorem dX10_readDoes_30 : decode cX10_readDoes 30 = .ok (.iconst 1, 1) := by decide +kernel
theorem dX10_readDoes_31 : decode cX10_readDoes 31 = .ok (.invokevirtual 72, 3) := by decide +kernel
theorem dX10_readDoes_34 : decode cX10_readDoes 34 = .ok (.ireturn, 1) := by decide +kernel
theorem dX10_readDoes_35 : decode cX10_readDoes 35 = .ok (.aload_n 0, 1) := by decide +kernel
theorem dX10_readDoes_36 : decode cX10_readDoes 36 = .ok (.getfield 160, 3) := by decide +kernel
theorem dX10_readDoes_39 : decode cX10_readDoes 39 = .ok (.iload_n 1, 1) := by decide +kernel
theorem dX10_readDoes_40 : decode cX10_readDoes 40 = .ok (.iload_n 2, 1) := by decide +kernel
theorem dX10_readDoes_41 : decode cX10_readDoes 41 = .ok (.bipush 9, 2) := by decide +kernel
theorem dX10_readDoes_43 : decode cX10_readDoes 43 = .ok (.isub, 1) := by decide +kernel
theorem dX10_readDoes_44 : decode cX10_readDoes 44 = .ok (.iastore, 1) := by decide +kernel
theorem dX10_readDoes_45 : decode cX10_readDoes 45 = .ok (.aload_n 0, 1) := by decide +kernel
theorem dX10_readDoes_46 : decode cX10_readDoes 46 = .ok (.invokevirtual 82, 3) := by decide +kernel
theorem dX10_readDoes_49 : decode cX10_readDoes 49 = .ok (.aload_n 0, 1) := by decide +kernel
theorem dX10_readDoes_50 : decode cX10_readDoes 50 = .ok (.getfield 160, 3) := by decide +kernel
theorem dX10_readDoes_53 : decode cX10_readDoes 53 = .ok (.iload_n 1, 1) := by decide +kernel
theorem dX10_readDoes_54 : decode cX10_readDoes 54 = .ok (.iaload, 1) := by decide +kernel
theorem dX10_readDoes_55 : decode cX10_readDoes 55 = .ok (.lookupswitch 39 #[(0, 25), (1, 37)], 25) := by decide +kernel
theorem dX10_readDoes_80 : decode cX10_readDoes 80 = .ok (.aload_n 0, 1) := by decide +kernel
theorem dX10_readDoes_81 : decode cX10_readDoes 81 = .ok (.iload_n 1, 1) := by decide +kernel
theorem dX10_readDoes_82 : decode cX10_readDoes 82 = .ok (.iconst 2, 1) := by decide +kernel
theorem dX10_readDoes_83 : decode cX10_readDoes 83 = .ok (.iadd, 1) := by decide +kernel
theorem dX10_readDoes_84 : decode cX10_readDoes 84 = .ok (.aload_n 0, 1) := by decide +kernel
theorem dX10_readDoes_85 : decode cX10_readDoes 85 = .ok (.invokevirtual 397, 3) := by decide +kernel
theorem dX10_readDoes_88 : decode cX10_readDoes 88 = .ok (.invokevirtual 400, 3) := by decide +kernel
theorem dX10_readDoes_91 : decode cX10_readDoes 91 = .ok (.ireturn, 1) := by decide +kernel
theorem dX10_readDoes_92 : decode cX10_readDoes 92 = .ok (.iconst 1, 1) := by decide +kernel
theorem dX10_readDoes_93 : decode cX10_readDoes 93 = .ok (.ireturn, 1) := by decide +kernel
theorem dX10_readDoes_94 : decode cX10_readDoes 94 = .ok (.aload_n 0, 1) := by decide +kernel
theorem dX10_readDoes_95 : decode cX10_readDoes 95 = .ok (.iload_n 1, 1) := by decide +kernel
theorem dX10_readDoes_96 : decode cX10_readDoes 96 = .ok (.iconst 2, 1) := by decide +kernel
theorem dX10_readDoes_97 : decode cX10_readDoes 97 = .ok (.iadd, 1) := by decide +kernel
theorem dX10_readDoes_98 : decode cX10_readDoes 98 = .ok (.aload_n 0, 1) := by decide +kernel
theorem dX10_readDoes_99 : decode cX10_readDoes 99 = .ok (.invokevirtual 403, 3) := by decide +kernel
theorem dX10_readDoes_102 : decode cX10_readDoes 102 = .ok (.invokevirtual 400, 3) := by decide +kernel
theorem dX10_readDoes_105 : decode cX10_readDoes 105 = .ok (.ireturn, 1) := by decide +kernel
theorem rl_m1000 : RI (-1000) (-1000) (-1000) := by unfold RI; decide +kernel
theorem rl_13 : RI 13 13 13 := by unfold RI; decide +kernel
theorem rl_14 : RI 14 14 14 := by unfold RI; decide +kernel
theorem rl_15 : RI 15 15 15 := by unfold RI; decide +kernel
