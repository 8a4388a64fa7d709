theorem tw_412 : Cond.methodLink RX9 (103 : Nat) yX3_read ∈ gT := gT_t (List.mem_of_getElem? (i := 412) (by decide +kernel)) (by decide +kernel)
theorem tw_413 : Cond.instanceMethod yX3_read ∈ gT := gT_t (List.mem_of_getElem? (i := 413) (by decide +kernel)) (by decide +kernel)
theorem tw_414 : Cond.selects RX3 yX3_read yX3_read ∈ gT := gT_t (List.mem_of_getElem? (i := 414) (by decide +kernel)) (by decide +kernel)
theorem tw_415 : Cond.code yX3_read cX3_read 5 (some .int) ∈ gT := gT_t (List.mem_of_getElem? (i := 415) (by decide +kernel)) (by decide +kernel)
theorem tw_756 : Cond.methodLink RX9 (279 : Nat) yX7_at ∈ gT := gT_t (List.mem_of_getElem? (i := 756) (by decide +kernel)) (by decide +kernel)
theorem tw_757 : Cond.instanceMethod yX7_at ∈ gT := gT_t (List.mem_of_getElem? (i := 757) (by decide +kernel)) (by decide +kernel)
theorem tw_758 : Cond.selects RX7 yX7_at yX7_at ∈ gT := gT_t (List.mem_of_getElem? (i := 758) (by decide +kernel)) (by decide +kernel)
theorem tw_759 : Cond.code yX7_at cX7_at 2 (some .int) ∈ gT := gT_t (List.mem_of_getElem? (i := 759) (by decide +kernel)) (by decide +kernel)
theorem tw_760 : Cond.methodLink RX9 (282 : Nat) yX9_setsThatSat ∈ gT := gT_t (List.mem_of_getElem? (i := 760) (by decide +kernel)) (by decide +kernel)
theorem tw_762 : Cond.instanceMethod yX9_setsThatSat ∈ gT := gT_t (List.mem_of_getElem? (i := 762) (by decide +kernel)) (by decide +kernel)
theorem tw_763 : Cond.code yX9_setsThatSat cX9_setsThatSat 12 (some .int) ∈ gT := gT_t (List.mem_of_getElem? (i := 763) (by decide +kernel)) (by decide +kernel)
theorem tw_764 : Cond.methodLink RX9 (374 : Nat) yX8_bulgesMore ∈ gT := gT_t (List.mem_of_getElem? (i := 764) (by decide +kernel)) (by decide +kernel)
theorem tw_765 : Cond.methodLink RX9 (377 : Nat) yX9_nearestToHalf ∈ gT := gT_t (List.mem_of_getElem? (i := 765) (by decide +kernel)) (by decide +kernel)
theorem tw_766 : Cond.static yX9_nearestToHalf ∈ gT := gT_t (List.mem_of_getElem? (i := 766) (by decide +kernel)) (by decide +kernel)
theorem tw_767 : Cond.code yX9_nearestToHalf cX9_nearestToHalf 7 (some .int) ∈ gT := gT_t (List.mem_of_getElem? (i := 767) (by decide +kernel)) (by decide +kernel)
theorem tw_945 : Cond.classLink RX9 (340 : Nat) RX5 ∈ gT := gT_t (List.mem_of_getElem? (i := 945) (by decide +kernel)) (by decide +kernel)
theorem tw_946 : Cond.instantiable RX5 (5 : Nat) ∈ gT := gT_t (List.mem_of_getElem? (i := 946) (by decide +kernel)) (by decide +kernel)
theorem tw_948 : Cond.instanceMethod yX5_init ∈ gT := gT_t (List.mem_of_getElem? (i := 948) (by decide +kernel)) (by decide +kernel)
theorem tw_949 : Cond.code yX5_init cX5_init 1 none ∈ gT := gT_t (List.mem_of_getElem? (i := 949) (by decide +kernel)) (by decide +kernel)
theorem tw_968 : Cond.methodLink RX9 (343 : Nat) yX5_read ∈ gT := gT_t (List.mem_of_getElem? (i := 968) (by decide +kernel)) (by decide +kernel)
theorem tw_969 : Cond.instanceMethod yX5_read ∈ gT := gT_t (List.mem_of_getElem? (i := 969) (by decide +kernel)) (by decide +kernel)
theorem tw_970 : Cond.selects RX5 yX5_read yX5_read ∈ gT := gT_t (List.mem_of_getElem? (i := 970) (by decide +kernel)) (by decide +kernel)
theorem tw_971 : Cond.code yX5_read cX5_read 3 none ∈ gT := gT_t (List.mem_of_getElem? (i := 971) (by decide +kernel)) (by decide +kernel)
theorem tn_947 : Cond.methodLinkNest RX9 (342 : Nat) yX5_init "WonderParcels" ∈ nW := nW_t (List.mem_of_getElem? (i := 947) (by decide +kernel)) (by decide +kernel)
theorem tn_956 : Cond.fieldLinkNest RX9 (344 : Nat) "WonderParcels$Sentence" "ones" "I" "WonderParcels" ∈ nW := nW_t (List.mem_of_getElem? (i := 956) (by decide +kernel)) (by decide +kernel)
theorem ts_19 : Cond.selects RX9 yX9_setsThatSat yX9_setsThatSat ∈ gT := gT_s (by decide +kernel) (by decide +kernel)
theorem dX9_post_0 : decode cX9_post 0 = .ok (.new 57, 3) := by decide +kernel
theorem dX9_post_3 : decode cX9_post 3 = .ok (.dup, 1) := by decide +kernel
theorem dX9_post_4 : decode cX9_post 4 = .ok (.invokespecial 59, 3) := by decide +kernel
theorem dX9_post_7 : decode cX9_post 7 = .ok (.astore_n 1, 1) := by decide +kernel
theorem dX9_post_8 : decode cX9_post 8 = .ok (.aload_n 1, 1) := by decide +kernel
theorem dX9_post_9 : decode cX9_post 9 = .ok (.aload_n 0, 1) := by decide +kernel
theorem dX9_post_10 : decode cX9_post 10 = .ok (.getfield 10, 3) := by decide +kernel
theorem dX9_post_13 : decode cX9_post 13 = .ok (.aload_n 0, 1) := by decide +kernel
theorem dX9_post_14 : decode cX9_post 14 = .ok (.getfield 69, 3) := by decide +kernel
theorem dX9_post_17 : decode cX9_post 17 = .ok (.invokevirtual 103, 3) := by decide +kernel
theorem dX9_post_20 : decode cX9_post 20 = .ok (.istore_n 2, 1) := by decide +kernel
theorem dX9_post_21 : decode cX9_post 21 = .ok (.aload_n 0, 1) := by decide +kernel
theorem dX9_post_22 : decode cX9_post 22 = .ok (.invokevirtual 107, 3) := by decide +kernel
theorem dX9_post_25 : decode cX9_post 25 = .ok (.aload_n 0, 1) := by decide +kernel
theorem dX9_post_26 : decode cX9_post 26 = .ok (.getfield 44, 3) := by decide +kernel
theorem dX9_post_29 : decode cX9_post 29 = .ok (.ifCond .eq 13, 3) := by decide +kernel
theorem dX9_post_32 : decode cX9_post 32 = .ok (.iconst (-1), 1) := by decide +kernel
theorem dX9_post_33 : decode cX9_post 33 = .ok (.aload_n 0, 1) := by decide +kernel
theorem dX9_post_34 : decode cX9_post 34 = .ok (.getfield 10, 3) := by decide +kernel
theorem dX9_post_37 : decode cX9_post 37 = .ok (.getfield 110, 3) := by decide +kernel
theorem dX9_post_40 : decode cX9_post 40 = .ok (.isub, 1) := by decide +kernel
theorem dX9_post_41 : decode cX9_post 41 = .ok (.ireturn, 1) := by decide +kernel
theorem dX9_post_42 : decode cX9_post 42 = .ok (.aload_n 0, 1) := by decide +kernel
theorem dX9_post_43 : decode cX9_post 43 = .ok (.getfield 65, 3) := by decide +kernel
theorem dX9_post_46 : decode cX9_post 46 = .ok (.aload_n 0, 1) := by decide +kernel
theorem dX9_post_47 : decode cX9_post 47 = .ok (.getfield 69, 3) := by decide +kernel
theorem dX9_post_50 : decode cX9_post 50 = .ok (.invokevirtual 113, 3) := by decide +kernel
theorem dX9_post_53 : decode cX9_post 53 = .ok (.aload_n 0, 1) := by decide +kernel
theorem dX9_post_54 : decode cX9_post 54 = .ok (.aconst_null, 1) := by decide +kernel
theorem dX9_post_55 : decode cX9_post 55 = .ok (.putfield 117, 3) := by decide +kernel
theorem dX9_post_58 : decode cX9_post 58 = .ok (.aload_n 0, 1) := by decide +kernel
theorem dX9_post_59 : decode cX9_post 59 = .ok (.getfield 75, 3) := by decide +kernel
theorem dX9_post_62 : decode cX9_post 62 = .ok (.invokevirtual 121, 3) := by decide +kernel
theorem dX9_post_65 : decode cX9_post 65 = .ok (.iload_n 2, 1) := by decide +kernel
theorem dX9_post_66 : decode cX9_post 66 = .ok (.ireturn, 1) := by decide +kernel
theorem dX9_sat_0 : decode cX9_sat 0 = .ok (.aload_n 0, 1) := by decide +kernel
theorem dX9_sat_1 : decode cX9_sat 1 = .ok (.getfield 10, 3) := by decide +kernel
theorem dX9_sat_4 : decode cX9_sat 4 = .ok (.getfield 100, 3) := by decide +kernel
theorem dX9_sat_7 : decode cX9_sat 7 = .ok (.iconst 4, 1) := by decide +kernel
theorem dX9_sat_8 : decode cX9_sat 8 = .ok (.if_icmp .ne 7, 3) := by decide +kernel
theorem dX9_sat_11 : decode cX9_sat 11 = .ok (.iconst 1, 1) := by decide +kernel
theorem dX9_sat_12 : decode cX9_sat 12 = .ok (.goto 4, 3) := by decide +kernel
theorem dX9_sat_15 : decode cX9_sat 15 = .ok (.iconst 0, 1) := by decide +kernel
theorem dX9_sat_16 : decode cX9_sat 16 = .ok (.istore_n 1, 1) := by decide +kernel
theorem dX9_sat_17 : decode cX9_sat 17 = .ok (.aload_n 0, 1) := by decide +kernel
theorem dX9_sat_18 : decode cX9_sat 18 = .ok (.getfield 10, 3) := by decide +kernel
theorem dX9_sat_21 : decode cX9_sat 21 = .ok (.iconst 0, 1) := by decide +kernel
theorem dX9_sat_22 : decode cX9_sat 22 = .ok (.invokevirtual 279, 3) := by decide +kernel
theorem dX9_sat_25 : decode cX9_sat 25 = .ok (.istore_n 2, 1) := by decide +kernel
theorem dX9_sat_26 : decode cX9_sat 26 = .ok (.aload_n 0, 1) := by decide +kernel
theorem dX9_sat_27 : decode cX9_sat 27 = .ok (.getfield 10, 3) := by decide +kernel
theorem dX9_sat_30 : decode cX9_sat 30 = .ok (.iconst 1, 1) := by decide +kernel
theorem dX9_sat_31 : decode cX9_sat 31 = .ok (.invokevirtual 279, 3) := by decide +kernel
theorem dX9_sat_34 : decode cX9_sat 34 = .ok (.istore_n 3, 1) := by decide +kernel
theorem dX9_sat_35 : decode cX9_sat 35 = .ok (.aload_n 0, 1) := by decide +kernel
theorem dX9_sat_36 : decode cX9_sat 36 = .ok (.getfield 10, 3) := by decide +kernel
theorem dX9_sat_39 : decode cX9_sat 39 = .ok (.iconst 2, 1) := by decide +kernel
theorem dX9_sat_40 : decode cX9_sat 40 = .ok (.invokevirtual 279, 3) := by decide +kernel
theorem dX9_sat_43 : decode cX9_sat 43 = .ok (.istore 4, 2) := by decide +kernel
theorem dX9_sat_45 : decode cX9_sat 45 = .ok (.aload_n 0, 1) := by decide +kernel
theorem dX9_sat_46 : decode cX9_sat 46 = .ok (.getfield 10, 3) := by decide +kernel
theorem dX9_sat_49 : decode cX9_sat 49 = .ok (.iconst 3, 1) := by decide +kernel
theorem dX9_sat_50 : decode cX9_sat 50 = .ok (.invokevirtual 279, 3) := by decide +kernel
theorem dX9_sat_53 : decode cX9_sat 53 = .ok (.istore 5, 2) := by decide +kernel
theorem dX9_sat_55 : decode cX9_sat 55 = .ok (.aload_n 0, 1) := by decide +kernel
theorem dX9_sat_56 : decode cX9_sat 56 = .ok (.getfield 10, 3) := by decide +kernel
theorem dX9_sat_59 : decode cX9_sat 59 = .ok (.iconst 0, 1) := by decide +kernel
theorem dX9_sat_60 : decode cX9_sat 60 = .ok (.putfield 100, 3) := by decide +kernel
theorem dX9_sat_63 : decode cX9_sat 63 = .ok (.iload_n 1, 1) := by decide +kernel
theorem dX9_sat_64 : decode cX9_sat 64 = .ok (.ifCond .eq 23, 3) := by decide +kernel
theorem dX9_sat_67 : decode cX9_sat 67 = .ok (.aload_n 0, 1) := by decide +kernel
theorem dX9_sat_68 : decode cX9_sat 68 = .ok (.iconst 2, 1) := by decide +kernel
theorem dX9_sat_69 : decode cX9_sat 69 = .ok (.iload_n 2, 1) := by decide +kernel
theorem dX9_sat_70 : decode cX9_sat 70 = .ok (.invokevirtual 124, 3) := by decide +kernel
theorem dX9_sat_73 : decode cX9_sat 73 = .ok (.ifCond .eq 14, 3) := by decide +kernel
theorem dX9_sat_76 : decode cX9_sat 76 = .ok (.iload_n 3, 1) := by decide +kernel
theorem dX9_sat_77 : decode cX9_sat 77 = .ok (.iconst 1, 1) := by decide +kernel
theorem dX9_sat_78 : decode cX9_sat 78 = .ok (.if_icmp .lt 9, 3) := by decide +kernel
theorem dX9_sat_81 : decode cX9_sat 81 = .ok (.iload_n 3, 1) := by decide +kernel
theorem dX9_sat_82 : decode cX9_sat 82 = .ok (.bipush 30, 2) := by decide +kernel
theorem dX9_sat_84 : decode cX9_sat 84 = .ok (.if_icmp .le 5, 3) := by decide +kernel
theorem dX9_sat_87 : decode cX9_sat 87 = .ok (.iconst (-1), 1) := by decide +kernel
theorem dX9_sat_88 : decode cX9_sat 88 = .ok (.ireturn, 1) := by decide +kernel
theorem dX9_sat_89 : decode cX9_sat 89 = .ok (.iload 4, 2) := by decide +kernel
theorem dX9_sat_91 : decode cX9_sat 91 = .ok (.sipush 255, 3) := by decide +kernel
theorem dX9_sat_94 : decode cX9_sat 94 = .ok (.if_icmp .eq 13, 3) := by decide +kernel
theorem dX9_sat_97 : decode cX9_sat 97 = .ok (.aload_n 0, 1) := by decide +kernel
theorem dX9_sat_98 : decode cX9_sat 98 = .ok (.iconst 0, 1) := by decide +kernel
theorem dX9_sat_99 : decode cX9_sat 99 = .ok (.iload 4, 2) := by decide +kernel
theorem dX9_sat_101 : decode cX9_sat 101 = .ok (.invokevirtual 124, 3) := by decide +kernel
theorem dX9_sat_104 : decode cX9_sat 104 = .ok (.ifCond .eq 14, 3) := by decide +kernel
theorem dX9_sat_107 : decode cX9_sat 107 = .ok (.aload_n 0, 1) := by decide +kernel
theorem dX9_sat_108 : decode cX9_sat 108 = .ok (.getfield 65, 3) := by decide +kernel
theorem dX9_sat_111 : decode cX9_sat 111 = .ok (.iload_n 2, 1) := by decide +kernel
theorem dX9_sat_112 : decode cX9_sat 112 = .ok (.invokevirtual 267, 3) := by decide +kernel
theorem dX9_sat_115 : decode cX9_sat 115 = .ok (.ifCond .eq 5, 3) := by decide +kernel
theorem dX9_sat_118 : decode cX9_sat 118 = .ok (.iconst (-1), 1) := by decide +kernel
theorem dX9_sat_119 : decode cX9_sat 119 = .ok (.ireturn, 1) := by decide +kernel
theorem dX9_sat_120 : decode cX9_sat 120 = .ok (.aload_n 0, 1) := by decide +kernel
theorem dX9_sat_121 : decode cX9_sat 121 = .ok (.iload_n 2, 1) := by decide +kernel
theorem dX9_sat_122 : decode cX9_sat 122 = .ok (.iload_n 3, 1) := by decide +kernel
theorem dX9_sat_123 : decode cX9_sat 123 = .ok (.iload 4, 2) := by decide +kernel
theorem dX9_sat_125 : decode cX9_sat 125 = .ok (.sipush 255, 3) := by decide +kernel
theorem dX9_sat_128 : decode cX9_sat 128 = .ok (.if_icmp .ne 7, 3) := by decide +kernel
theorem dX9_sat_131 : decode cX9_sat 131 = .ok (.iconst (-1), 1) := by decide +kernel
theorem dX9_sat_132 : decode cX9_sat 132 = .ok (.goto 5, 3) := by decide +kernel
theorem dX9_sat_135 : decode cX9_sat 135 = .ok (.iload 4, 2) := by decide +kernel
theorem dX9_sat_137 : decode cX9_sat 137 = .ok (.iload 5, 2) := by decide +kernel
theorem dX9_sat_139 : decode cX9_sat 139 = .ok (.invokevirtual 282, 3) := by decide +kernel
theorem dX9_sat_142 : decode cX9_sat 142 = .ok (.ireturn, 1) := by decide +kernel
theorem dX9_sentence_0 : decode cX9_sentence 0 = .ok (.new 340, 3) := by decide +kernel
theorem dX9_sentence_3 : decode cX9_sentence 3 = .ok (.dup, 1) := by decide +kernel
theorem dX9_sentence_4 : decode cX9_sentence 4 = .ok (.invokespecial 342, 3) := by decide +kernel
theorem dX9_sentence_7 : decode cX9_sentence 7 = .ok (.astore_n 1, 1) := by decide +kernel
theorem dX9_sentence_8 : decode cX9_sentence 8 = .ok (.aload_n 1, 1) := by decide +kernel
theorem dX9_sentence_9 : decode cX9_sentence 9 = .ok (.aload_n 0, 1) := by decide +kernel
theorem dX9_sentence_10 : decode cX9_sentence 10 = .ok (.getfield 10, 3) := by decide +kernel
theorem dX9_sentence_13 : decode cX9_sentence 13 = .ok (.aload_n 0, 1) := by decide +kernel
theorem dX9_sentence_14 : decode cX9_sentence 14 = .ok (.getfield 65, 3) := by decide +kernel
theorem dX9_sentence_17 : decode cX9_sentence 17 = .ok (.getfield 168, 3) := by decide +kernel
theorem dX9_sentence_20 : decode cX9_sentence 20 = .ok (.invokevirtual 343, 3) := by decide +kernel
theorem dX9_sentence_23 : decode cX9_sentence 23 = .ok (.aload_n 0, 1) := by decide +kernel
theorem dX9_sentence_24 : decode cX9_sentence 24 = .ok (.invokevirtual 107, 3) := by decide +kernel
theorem dX9_sentence_27 : decode cX9_sentence 27 = .ok (.aload_n 0, 1) := by decide +kernel
theorem dX9_sentence_28 : decode cX9_sentence 28 = .ok (.getfield 44, 3) := by decide +kernel
theorem dX9_sentence_31 : decode cX9_sentence 31 = .ok (.ifCond .eq 13, 3) := by decide +kernel
theorem dX9_sentence_34 : decode cX9_sentence 34 = .ok (.iconst (-1), 1) := by decide +kernel
theorem dX9_sentence_35 : decode cX9_sentence 35 = .ok (.aload_n 0, 1) := by decide +kernel
theorem dX9_sentence_36 : decode cX9_sentence 36 = .ok (.getfield 10, 3) := by decide +kernel
theorem dX9_sentence_39 : decode cX9_sentence 39 = .ok (.getfield 110, 3) := by decide +kernel
theorem dX9_sentence_42 : decode cX9_sentence 42 = .ok (.isub, 1) := by decide +kernel
theorem dX9_sentence_43 : decode cX9_sentence 43 = .ok (.ireturn, 1) := by decide +kernel
theorem dX9_sentence_44 : decode cX9_sentence 44 = .ok (.aload_n 0, 1) := by decide +kernel
theorem dX9_sentence_45 : decode cX9_sentence 45 = .ok (.aload_n 1, 1) := by decide +kernel
theorem dX9_sentence_46 : decode cX9_sentence 46 = .ok (.putfield 117, 3) := by decide +kernel
theorem dX9_sentence_49 : decode cX9_sentence 49 = .ok (.aload_n 1, 1) := by decide +kernel
theorem dX9_sentence_50 : decode cX9_sentence 50 = .ok (.getfield 344, 3) := by decide +kernel
theorem dX9_sentence_53 : decode cX9_sentence 53 = .ok (.ireturn, 1) := by decide +kernel
theorem dX9_setsThatSat_0 : decode cX9_setsThatSat 0 = .ok (.aload_n 0, 1) := by decide +kernel
theorem dX9_setsThatSat_1 : decode cX9_setsThatSat 1 = .ok (.getfield 65, 3) := by decide +kernel
theorem dX9_setsThatSat_4 : decode cX9_setsThatSat 4 = .ok (.getfield 168, 3) := by decide +kernel
theorem dX9_setsThatSat_7 : decode cX9_setsThatSat 7 = .ok (.getfield 297, 3) := by decide +kernel
theorem dX9_setsThatSat_10 : decode cX9_setsThatSat 10 = .ok (.iconst 3, 1) := by decide +kernel
theorem dX9_setsThatSat_11 : decode cX9_setsThatSat 11 = .ok (.iaload, 1) := by decide +kernel
theorem dX9_setsThatSat_12 : decode cX9_setsThatSat 12 = .ok (.istore 5, 2) := by decide +kernel
theorem dX9_setsThatSat_14 : decode cX9_setsThatSat 14 = .ok (.iconst 1, 1) := by decide +kernel
theorem dX9_setsThatSat_15 : decode cX9_setsThatSat 15 = .ok (.iload 5, 2) := by decide +kernel
theorem dX9_setsThatSat_17 : decode cX9_setsThatSat 17 = .ok (.ishl, 1) := by decide +kernel
theorem dX9_setsThatSat_18 : decode cX9_setsThatSat 18 = .ok (.istore 6, 2) := by decide +kernel
theorem dX9_setsThatSat_20 : decode cX9_setsThatSat 20 = .ok (.iconst 0, 1) := by decide +kernel
theorem dX9_setsThatSat_21 : decode cX9_setsThatSat 21 = .ok (.istore 7, 2) := by decide +kernel
theorem dX9_setsThatSat_23 : decode cX9_setsThatSat 23 = .ok (.iload 6, 2) := by decide +kernel
theorem dX9_setsThatSat_25 : decode cX9_setsThatSat 25 = .ok (.iconst 1, 1) := by decide +kernel
theorem dX9_setsThatSat_26 : decode cX9_setsThatSat 26 = .ok (.isub, 1) := by decide +kernel
theorem dX9_setsThatSat_27 : decode cX9_setsThatSat 27 = .ok (.istore 8, 2) := by decide +kernel
theorem dX9_setsThatSat_29 : decode cX9_setsThatSat 29 = .ok (.bipush 8, 2) := by decide +kernel
theorem dX9_setsThatSat_31 : decode cX9_setsThatSat 31 = .ok (.newarray .int, 2) := by decide +kernel
theorem dX9_setsThatSat_33 : decode cX9_setsThatSat 33 = .ok (.astore 9, 2) := by decide +kernel
theorem dX9_setsThatSat_35 : decode cX9_setsThatSat 35 = .ok (.aload_n 0, 1) := by decide +kernel
theorem dX9_setsThatSat_36 : decode cX9_setsThatSat 36 = .ok (.getfield 69, 3) := by decide +kernel
theorem dX9_setsThatSat_39 : decode cX9_setsThatSat 39 = .ok (.aload_n 0, 1) := by decide +kernel
theorem dX9_setsThatSat_40 : decode cX9_setsThatSat 40 = .ok (.getfield 65, 3) := by decide +kernel
theorem dX9_setsThatSat_43 : decode cX9_setsThatSat 43 = .ok (.invokevirtual 113, 3) := by decide +kernel
theorem dX9_setsThatSat_46 : decode cX9_setsThatSat 46 = .ok (.aload_n 0, 1) := by decide +kernel
theorem dX9_setsThatSat_47 : decode cX9_setsThatSat 47 = .ok (.getfield 69, 3) := by decide +kernel
theorem dX9_setsThatSat_50 : decode cX9_setsThatSat 50 = .ok (.getfield 175, 3) := by decide +kernel
theorem dX9_setsThatSat_53 : decode cX9_setsThatSat 53 = .ok (.iconst (-1), 1) := by decide +kernel
theorem dX9_setsThatSat_54 : decode cX9_setsThatSat 54 = .ok (.invokestatic 86, 3) := by decide +kernel
theorem dX9_setsThatSat_57 : decode cX9_setsThatSat 57 = .ok (.iconst 0, 1) := by decide +kernel
theorem dX9_setsThatSat_58 : decode cX9_setsThatSat 58 = .ok (.istore 10, 2) := by decide +kernel
theorem dX9_setsThatSat_60 : decode cX9_setsThatSat 60 = .ok (.iload 10, 2) := by decide +kernel
theorem dX9_setsThatSat_62 : decode cX9_setsThatSat 62 = .ok (.iload 6, 2) := by decide +kernel
theorem dX9_setsThatSat_64 : decode cX9_setsThatSat 64 = .ok (.if_icmp .ge 100, 3) := by decide +kernel
theorem dX9_setsThatSat_67 : decode cX9_setsThatSat 67 = .ok (.aload_n 0, 1) := by decide +kernel
theorem dX9_setsThatSat_68 : decode cX9_setsThatSat 68 = .ok (.getfield 69, 3) := by decide +kernel
theorem dX9_setsThatSat_71 : decode cX9_setsThatSat 71 = .ok (.iload 10, 2) := by decide +kernel
theorem dX9_setsThatSat_73 : decode cX9_setsThatSat 73 = .ok (.iload_n 1, 1) := by decide +kernel
theorem dX9_setsThatSat_74 : decode cX9_setsThatSat 74 = .ok (.aload_n 0, 1) := by decide +kernel
theorem dX9_setsThatSat_75 : decode cX9_setsThatSat 75 = .ok (.getfield 69, 3) := by decide +kernel
theorem dX9_setsThatSat_78 : decode cX9_setsThatSat 78 = .ok (.invokevirtual 370, 3) := by decide +kernel
theorem dX9_setsThatSat_81 : decode cX9_setsThatSat 81 = .ok (.aload_n 0, 1) := by decide +kernel
theorem dX9_setsThatSat_82 : decode cX9_setsThatSat 82 = .ok (.getfield 69, 3) := by decide +kernel
theorem dX9_setsThatSat_85 : decode cX9_setsThatSat 85 = .ok (.iload_n 1, 1) := by decide +kernel
theorem dX9_setsThatSat_86 : decode cX9_setsThatSat 86 = .ok (.invokevirtual 260, 3) := by decide +kernel
theorem dX9_setsThatSat_89 : decode cX9_setsThatSat 89 = .ok (.pop, 1) := by decide +kernel
theorem dX9_setsThatSat_90 : decode cX9_setsThatSat 90 = .ok (.aload_n 0, 1) := by decide +kernel
theorem dX9_setsThatSat_91 : decode cX9_setsThatSat 91 = .ok (.getfield 69, 3) := by decide +kernel
theorem dX9_setsThatSat_94 : decode cX9_setsThatSat 94 = .ok (.iload_n 1, 1) := by decide +kernel
theorem dX9_setsThatSat_95 : decode cX9_setsThatSat 95 = .ok (.iload_n 2, 1) := by decide +kernel
theorem dX9_setsThatSat_96 : decode cX9_setsThatSat 96 = .ok (.invokevirtual 264, 3) := by decide +kernel
theorem dX9_setsThatSat_99 : decode cX9_setsThatSat 99 = .ok (.iload_n 3, 1) := by decide +kernel
theorem dX9_setsThatSat_100 : decode cX9_setsThatSat 100 = .ok (.if_icmp .ne 58, 3) := by decide +kernel
theorem dX9_setsThatSat_103 : decode cX9_setsThatSat 103 = .ok (.aload_n 0, 1) := by decide +kernel
theorem dX9_setsThatSat_104 : decode cX9_setsThatSat 104 = .ok (.getfield 69, 3) := by decide +kernel
theorem dX9_setsThatSat_107 : decode cX9_setsThatSat 107 = .ok (.iload_n 1, 1) := by decide +kernel
theorem dX9_setsThatSat_108 : decode cX9_setsThatSat 108 = .ok (.iload_n 2, 1) := by decide +kernel
theorem dX9_setsThatSat_109 : decode cX9_setsThatSat 109 = .ok (.invokevirtual 374, 3) := by decide +kernel
theorem dX9_setsThatSat_112 : decode cX9_setsThatSat 112 = .ok (.iload 4, 2) := by decide +kernel
theorem dX9_setsThatSat_114 : decode cX9_setsThatSat 114 = .ok (.if_icmp .ne 44, 3) := by decide +kernel
theorem dX9_setsThatSat_117 : decode cX9_setsThatSat 117 = .ok (.iinc 7 1, 3) := by decide +kernel
theorem dX9_setsThatSat_120 : decode cX9_setsThatSat 120 = .ok (.iload 8, 2) := by decide +kernel
theorem dX9_setsThatSat_122 : decode cX9_setsThatSat 122 = .ok (.iload 10, 2) := by decide +kernel
theorem dX9_setsThatSat_124 : decode cX9_setsThatSat 124 = .ok (.iand, 1) := by decide +kernel
theorem dX9_setsThatSat_125 : decode cX9_setsThatSat 125 = .ok (.istore 8, 2) := by decide +kernel
theorem dX9_setsThatSat_127 : decode cX9_setsThatSat 127 = .ok (.iconst 0, 1) := by decide +kernel
theorem dX9_setsThatSat_128 : decode cX9_setsThatSat 128 = .ok (.istore 11, 2) := by decide +kernel
theorem dX9_setsThatSat_130 : decode cX9_setsThatSat 130 = .ok (.iload 11, 2) := by decide +kernel
theorem dX9_setsThatSat_132 : decode cX9_setsThatSat 132 = .ok (.iload 5, 2) := by decide +kernel
theorem dX9_setsThatSat_134 : decode cX9_setsThatSat 134 = .ok (.if_icmp .ge 24, 3) := by decide +kernel
theorem dX9_setsThatSat_137 : decode cX9_setsThatSat 137 = .ok (.aload 9, 2) := by decide +kernel
theorem dX9_setsThatSat_139 : decode cX9_setsThatSat 139 = .ok (.iload 11, 2) := by decide +kernel
theorem dX9_setsThatSat_141 : decode cX9_setsThatSat 141 = .ok (.dup2, 1) := by decide +kernel
theorem dX9_setsThatSat_142 : decode cX9_setsThatSat 142 = .ok (.iaload, 1) := by decide +kernel
theorem dX9_setsThatSat_143 : decode cX9_setsThatSat 143 = .ok (.iload 10, 2) := by decide +kernel
theorem dX9_setsThatSat_145 : decode cX9_setsThatSat 145 = .ok (.iload 11, 2) := by decide +kernel
theorem dX9_setsThatSat_147 : decode cX9_setsThatSat 147 = .ok (.ishr, 1) := by decide +kernel
theorem dX9_setsThatSat_148 : decode cX9_setsThatSat 148 = .ok (.iconst 1, 1) := by decide +kernel
theorem dX9_setsThatSat_149 : decode cX9_setsThatSat 149 = .ok (.iand, 1) := by decide +kernel
theorem dX9_setsThatSat_150 : decode cX9_setsThatSat 150 = .ok (.iadd, 1) := by decide +kernel
theorem dX9_setsThatSat_151 : decode cX9_setsThatSat 151 = .ok (.iastore, 1) := by decide +kernel
theorem dX9_setsThatSat_152 : decode cX9_setsThatSat 152 = .ok (.iinc 11 1, 3) := by decide +kernel
theorem dX9_setsThatSat_155 : decode cX9_setsThatSat 155 = .ok (.goto (-25), 3) := by decide +kernel
theorem dX9_setsThatSat_158 : decode cX9_setsThatSat 158 = .ok (.iinc 10 1, 3) := by decide +kernel
theorem dX9_setsThatSat_161 : decode cX9_setsThatSat 161 = .ok (.goto (-101), 3) := by decide +kernel
theorem dX9_setsThatSat_164 : decode cX9_setsThatSat 164 = .ok (.iload 7, 2) := by decide +kernel
theorem dX9_setsThatSat_166 : decode cX9_setsThatSat 166 = .ok (.ifCond .le 22, 3) := by decide +kernel
theorem dX9_setsThatSat_169 : decode cX9_setsThatSat 169 = .ok (.aload_n 0, 1) := by decide +kernel
theorem dX9_setsThatSat_170 : decode cX9_setsThatSat 170 = .ok (.iload 8, 2) := by decide +kernel
theorem dX9_setsThatSat_172 : decode cX9_setsThatSat 172 = .ok (.putfield 51, 3) := by decide +kernel
theorem dX9_setsThatSat_175 : decode cX9_setsThatSat 175 = .ok (.aload_n 0, 1) := by decide +kernel
theorem dX9_setsThatSat_176 : decode cX9_setsThatSat 176 = .ok (.aload 9, 2) := by decide +kernel
theorem dX9_setsThatSat_178 : decode cX9_setsThatSat 178 = .ok (.iload 5, 2) := by decide +kernel
theorem dX9_setsThatSat_180 : decode cX9_setsThatSat 180 = .ok (.iload 7, 2) := by decide +kernel
theorem dX9_setsThatSat_182 : decode cX9_setsThatSat 182 = .ok (.invokestatic 377, 3) := by decide +kernel
theorem dX9_setsThatSat_185 : decode cX9_setsThatSat 185 = .ok (.putfield 54, 3) := by decide +kernel
theorem dX9_setsThatSat_188 : decode cX9_setsThatSat 188 = .ok (.iload 7, 2) := by decide +kernel
theorem dX9_setsThatSat_190 : decode cX9_setsThatSat 190 = .ok (.ireturn, 1) := by decide +kernel
