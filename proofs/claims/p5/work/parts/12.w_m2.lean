theorem inX7 : ∀ w ∈ u_ws RX7 TX7 12, w ∈ gT := by decide +kernel
theorem tw_2 : Cond.initialized RX7 ∈ gT := gT_t (List.mem_of_getElem? (i := 2) (by decide +kernel)) (by decide +kernel)
theorem tw_87 : Cond.fieldLink RX7 (11 : Nat) "WonderParcels$Tape" "bytes" "[B" ∈ gT := gT_t (List.mem_of_getElem? (i := 87) (by decide +kernel)) (by decide +kernel)
theorem tw_88 : Cond.fieldLink RX7 (15 : Nat) "WonderParcels$Tape" "words" "[J" ∈ gT := gT_t (List.mem_of_getElem? (i := 88) (by decide +kernel)) (by decide +kernel)
theorem tw_89 : Cond.fieldLink RX7 (19 : Nat) "WonderParcels$Tape" "length" "I" ∈ gT := gT_t (List.mem_of_getElem? (i := 89) (by decide +kernel)) (by decide +kernel)
theorem tw_91 : Cond.fieldLink RX7 (38 : Nat) "WonderParcels$Tape" "stop" "I" ∈ gT := gT_t (List.mem_of_getElem? (i := 91) (by decide +kernel)) (by decide +kernel)
theorem tw_92 : Cond.fieldLink RX7 (34 : Nat) "WonderParcels$Tape" "tooLong" "Z" ∈ gT := gT_t (List.mem_of_getElem? (i := 92) (by decide +kernel)) (by decide +kernel)
theorem tw_93 : Cond.fieldLink RX7 (60 : Nat) "WonderParcels$Tape" "begin" "I" ∈ gT := gT_t (List.mem_of_getElem? (i := 93) (by decide +kernel)) (by decide +kernel)
theorem tw_94 : Cond.fieldLink RX7 (41 : Nat) "WonderParcels$Tape" "after" "I" ∈ gT := gT_t (List.mem_of_getElem? (i := 94) (by decide +kernel)) (by decide +kernel)
theorem tw_98 : Cond.fieldLink RX7 (53 : Nat) "WonderParcels$Tape" "kind" "I" ∈ gT := gT_t (List.mem_of_getElem? (i := 98) (by decide +kernel)) (by decide +kernel)
theorem tw_100 : Cond.fieldLink RX7 (76 : Nat) "WonderParcels$Tape" "name" "J" ∈ gT := gT_t (List.mem_of_getElem? (i := 100) (by decide +kernel)) (by decide +kernel)
theorem tw_101 : Cond.fieldLink RX7 (73 : Nat) "WonderParcels$Tape" "number" "I" ∈ gT := gT_t (List.mem_of_getElem? (i := 101) (by decide +kernel)) (by decide +kernel)
theorem tw_104 : Cond.fieldLink RX7 (44 : Nat) "WonderParcels$Tape" "fault" "I" ∈ gT := gT_t (List.mem_of_getElem? (i := 104) (by decide +kernel)) (by decide +kernel)
theorem tw_108 : Cond.fieldLink RX7 (47 : Nat) "WonderParcels$Tape" "place" "I" ∈ gT := gT_t (List.mem_of_getElem? (i := 108) (by decide +kernel)) (by decide +kernel)
theorem tw_424 : Cond.methodLink RX7 (50 : Nat) yX7_pass ∈ gT := gT_t (List.mem_of_getElem? (i := 424) (by decide +kernel)) (by decide +kernel)
theorem tw_425 : Cond.instanceMethod yX7_pass ∈ gT := gT_t (List.mem_of_getElem? (i := 425) (by decide +kernel)) (by decide +kernel)
theorem tw_426 : Cond.selects RX7 yX7_pass yX7_pass ∈ gT := gT_t (List.mem_of_getElem? (i := 426) (by decide +kernel)) (by decide +kernel)
theorem tw_427 : Cond.code yX7_pass cX7_pass 2 none ∈ gT := gT_t (List.mem_of_getElem? (i := 427) (by decide +kernel)) (by decide +kernel)
theorem tw_428 : Cond.methodLink RX7 (63 : Nat) yX7_isBlank ∈ gT := gT_t (List.mem_of_getElem? (i := 428) (by decide +kernel)) (by decide +kernel)
theorem tw_429 : Cond.static yX7_isBlank ∈ gT := gT_t (List.mem_of_getElem? (i := 429) (by decide +kernel)) (by decide +kernel)
theorem tw_430 : Cond.code yX7_isBlank cX7_isBlank 1 (some .boolean) ∈ gT := gT_t (List.mem_of_getElem? (i := 430) (by decide +kernel)) (by decide +kernel)
theorem tw_431 : Cond.methodLink RX7 (67 : Nat) yX7_readRun ∈ gT := gT_t (List.mem_of_getElem? (i := 431) (by decide +kernel)) (by decide +kernel)
theorem tw_433 : Cond.instanceMethod yX7_readRun ∈ gT := gT_t (List.mem_of_getElem? (i := 433) (by decide +kernel)) (by decide +kernel)
theorem tw_434 : Cond.code yX7_readRun cX7_readRun 8 none ∈ gT := gT_t (List.mem_of_getElem? (i := 434) (by decide +kernel)) (by decide +kernel)
theorem tw_435 : Cond.methodLink RX7 (70 : Nat) yX7_isSign ∈ gT := gT_t (List.mem_of_getElem? (i := 435) (by decide +kernel)) (by decide +kernel)
theorem tw_436 : Cond.static yX7_isSign ∈ gT := gT_t (List.mem_of_getElem? (i := 436) (by decide +kernel)) (by decide +kernel)
theorem tw_437 : Cond.code yX7_isSign cX7_isSign 1 (some .boolean) ∈ gT := gT_t (List.mem_of_getElem? (i := 437) (by decide +kernel)) (by decide +kernel)
theorem tw_442 : Cond.methodLink RX7 (56 : Nat) yX7_refuse ∈ gT := gT_t (List.mem_of_getElem? (i := 442) (by decide +kernel)) (by decide +kernel)
theorem tw_443 : Cond.instanceMethod yX7_refuse ∈ gT := gT_t (List.mem_of_getElem? (i := 443) (by decide +kernel)) (by decide +kernel)
theorem tw_444 : Cond.selects RX7 yX7_refuse yX7_refuse ∈ gT := gT_t (List.mem_of_getElem? (i := 444) (by decide +kernel)) (by decide +kernel)
theorem tw_445 : Cond.code yX7_refuse cX7_refuse 2 none ∈ gT := gT_t (List.mem_of_getElem? (i := 445) (by decide +kernel)) (by decide +kernel)
theorem ts_0 : Cond.selects RX7 yX7_readRun yX7_readRun ∈ gT := gT_s (by decide +kernel) (by decide +kernel)
theorem dX7_at_0 : decode cX7_at 0 = .ok (.iload_n 1, 1) := by decide +kernel
theorem dX7_at_1 : decode cX7_at 1 = .ok (.ifCond .lt 24, 3) := by decide +kernel
theorem dX7_at_4 : decode cX7_at 4 = .ok (.iload_n 1, 1) := by decide +kernel
theorem dX7_at_5 : decode cX7_at 5 = .ok (.aload_n 0, 1) := by decide +kernel
theorem dX7_at_6 : decode cX7_at 6 = .ok (.getfield 19, 3) := by decide +kernel
theorem dX7_at_9 : decode cX7_at 9 = .ok (.if_icmp .ge 16, 3) := by decide +kernel
theorem dX7_at_12 : decode cX7_at 12 = .ok (.aload_n 0, 1) := by decide +kernel
theorem dX7_at_13 : decode cX7_at 13 = .ok (.getfield 11, 3) := by decide +kernel
theorem dX7_at_16 : decode cX7_at 16 = .ok (.iload_n 1, 1) := by decide +kernel
theorem dX7_at_17 : decode cX7_at 17 = .ok (.baload, 1) := by decide +kernel
theorem dX7_at_18 : decode cX7_at 18 = .ok (.sipush 255, 3) := by decide +kernel
theorem dX7_at_21 : decode cX7_at 21 = .ok (.iand, 1) := by decide +kernel
theorem dX7_at_22 : decode cX7_at 22 = .ok (.goto 4, 3) := by decide +kernel
theorem dX7_at_25 : decode cX7_at 25 = .ok (.iconst (-1), 1) := by decide +kernel
theorem dX7_at_26 : decode cX7_at 26 = .ok (.ireturn, 1) := by decide +kernel
theorem dX7_goesOn_0 : decode cX7_goesOn 0 = .ok (.aload_n 0, 1) := by decide +kernel
theorem dX7_goesOn_1 : decode cX7_goesOn 1 = .ok (.getfield 53, 3) := by decide +kernel
theorem dX7_goesOn_4 : decode cX7_goesOn 4 = .ok (.ifCond .ne 15, 3) := by decide +kernel
theorem dX7_goesOn_7 : decode cX7_goesOn 7 = .ok (.aload_n 0, 1) := by decide +kernel
theorem dX7_goesOn_8 : decode cX7_goesOn 8 = .ok (.getfield 34, 3) := by decide +kernel
theorem dX7_goesOn_11 : decode cX7_goesOn 11 = .ok (.ifCond .eq 8, 3) := by decide +kernel
theorem dX7_goesOn_14 : decode cX7_goesOn 14 = .ok (.aload_n 0, 1) := by decide +kernel
theorem dX7_goesOn_15 : decode cX7_goesOn 15 = .ok (.iconst 1, 1) := by decide +kernel
theorem dX7_goesOn_16 : decode cX7_goesOn 16 = .ok (.invokevirtual 56, 3) := by decide +kernel
theorem dX7_goesOn_19 : decode cX7_goesOn 19 = .ok (.aload_n 0, 1) := by decide +kernel
theorem dX7_goesOn_20 : decode cX7_goesOn 20 = .ok (.getfield 44, 3) := by decide +kernel
theorem dX7_goesOn_23 : decode cX7_goesOn 23 = .ok (.ifCond .ne 14, 3) := by decide +kernel
theorem dX7_goesOn_26 : decode cX7_goesOn 26 = .ok (.aload_n 0, 1) := by decide +kernel
theorem dX7_goesOn_27 : decode cX7_goesOn 27 = .ok (.getfield 53, 3) := by decide +kernel
theorem dX7_goesOn_30 : decode cX7_goesOn 30 = .ok (.ifCond .eq 7, 3) := by decide +kernel
theorem dX7_goesOn_33 : decode cX7_goesOn 33 = .ok (.iconst 1, 1) := by decide +kernel
theorem dX7_goesOn_34 : decode cX7_goesOn 34 = .ok (.goto 4, 3) := by decide +kernel
theorem dX7_goesOn_37 : decode cX7_goesOn 37 = .ok (.iconst 0, 1) := by decide +kernel
theorem dX7_goesOn_38 : decode cX7_goesOn 38 = .ok (.ireturn, 1) := by decide +kernel
theorem dX7_hasPlaceForTwenty_0 : decode cX7_hasPlaceForTwenty 0 = .ok (.aload_n 0, 1) := by decide +kernel
theorem dX7_hasPlaceForTwenty_1 : decode cX7_hasPlaceForTwenty 1 = .ok (.getfield 19, 3) := by decide +kernel
theorem dX7_hasPlaceForTwenty_4 : decode cX7_hasPlaceForTwenty 4 = .ok (.bipush 20, 2) := by decide +kernel
theorem dX7_hasPlaceForTwenty_6 : decode cX7_hasPlaceForTwenty 6 = .ok (.iadd, 1) := by decide +kernel
theorem dX7_hasPlaceForTwenty_7 : decode cX7_hasPlaceForTwenty 7 = .ok (.aload_n 0, 1) := by decide +kernel
theorem dX7_hasPlaceForTwenty_8 : decode cX7_hasPlaceForTwenty 8 = .ok (.getfield 11, 3) := by decide +kernel
theorem dX7_hasPlaceForTwenty_11 : decode cX7_hasPlaceForTwenty 11 = .ok (.arraylength, 1) := by decide +kernel
theorem dX7_hasPlaceForTwenty_12 : decode cX7_hasPlaceForTwenty 12 = .ok (.if_icmp .gt 7, 3) := by decide +kernel
theorem dX7_hasPlaceForTwenty_15 : decode cX7_hasPlaceForTwenty 15 = .ok (.iconst 1, 1) := by decide +kernel
theorem dX7_hasPlaceForTwenty_16 : decode cX7_hasPlaceForTwenty 16 = .ok (.goto 4, 3) := by decide +kernel
theorem dX7_hasPlaceForTwenty_19 : decode cX7_hasPlaceForTwenty 19 = .ok (.iconst 0, 1) := by decide +kernel
theorem dX7_hasPlaceForTwenty_20 : decode cX7_hasPlaceForTwenty 20 = .ok (.ireturn, 1) := by decide +kernel
theorem dX7_isBlank_0 : decode cX7_isBlank 0 = .ok (.iload_n 0, 1) := by decide +kernel
theorem dX7_isBlank_1 : decode cX7_isBlank 1 = .ok (.bipush 32, 2) := by decide +kernel
theorem dX7_isBlank_3 : decode cX7_isBlank 3 = .ok (.if_icmp .eq 9, 3) := by decide +kernel
theorem dX7_isBlank_6 : decode cX7_isBlank 6 = .ok (.iload_n 0, 1) := by decide +kernel
theorem dX7_isBlank_7 : decode cX7_isBlank 7 = .ok (.bipush 10, 2) := by decide +kernel
theorem dX7_isBlank_9 : decode cX7_isBlank 9 = .ok (.if_icmp .ne 7, 3) := by decide +kernel
theorem dX7_isBlank_12 : decode cX7_isBlank 12 = .ok (.iconst 1, 1) := by decide +kernel
theorem dX7_isBlank_13 : decode cX7_isBlank 13 = .ok (.goto 4, 3) := by decide +kernel
theorem dX7_isBlank_16 : decode cX7_isBlank 16 = .ok (.iconst 0, 1) := by decide +kernel
theorem dX7_isBlank_17 : decode cX7_isBlank 17 = .ok (.ireturn, 1) := by decide +kernel
theorem dX7_isSign_0 : decode cX7_isSign 0 = .ok (.iload_n 0, 1) := by decide +kernel
theorem dX7_isSign_1 : decode cX7_isSign 1 = .ok (.bipush 59, 2) := by decide +kernel
theorem dX7_isSign_3 : decode cX7_isSign 3 = .ok (.if_icmp .eq 33, 3) := by decide +kernel
theorem dX7_isSign_6 : decode cX7_isSign 6 = .ok (.iload_n 0, 1) := by decide +kernel
theorem dX7_isSign_7 : decode cX7_isSign 7 = .ok (.bipush 60, 2) := by decide +kernel
theorem dX7_isSign_9 : decode cX7_isSign 9 = .ok (.if_icmp .eq 27, 3) := by decide +kernel
theorem dX7_isSign_12 : decode cX7_isSign 12 = .ok (.iload_n 0, 1) := by decide +kernel
theorem dX7_isSign_13 : decode cX7_isSign 13 = .ok (.bipush 61, 2) := by decide +kernel
theorem dX7_isSign_15 : decode cX7_isSign 15 = .ok (.if_icmp .eq 21, 3) := by decide +kernel
theorem dX7_isSign_18 : decode cX7_isSign 18 = .ok (.iload_n 0, 1) := by decide +kernel
theorem dX7_isSign_19 : decode cX7_isSign 19 = .ok (.bipush 62, 2) := by decide +kernel
theorem dX7_isSign_21 : decode cX7_isSign 21 = .ok (.if_icmp .eq 15, 3) := by decide +kernel
theorem dX7_isSign_24 : decode cX7_isSign 24 = .ok (.iload_n 0, 1) := by decide +kernel
theorem dX7_isSign_25 : decode cX7_isSign 25 = .ok (.bipush 40, 2) := by decide +kernel
theorem dX7_isSign_27 : decode cX7_isSign 27 = .ok (.if_icmp .eq 9, 3) := by decide +kernel
theorem dX7_isSign_30 : decode cX7_isSign 30 = .ok (.iload_n 0, 1) := by decide +kernel
theorem dX7_isSign_31 : decode cX7_isSign 31 = .ok (.bipush 41, 2) := by decide +kernel
theorem dX7_isSign_33 : decode cX7_isSign 33 = .ok (.if_icmp .ne 7, 3) := by decide +kernel
theorem dX7_isSign_36 : decode cX7_isSign 36 = .ok (.iconst 1, 1) := by decide +kernel
theorem dX7_isSign_37 : decode cX7_isSign 37 = .ok (.goto 4, 3) := by decide +kernel
theorem dX7_isSign_40 : decode cX7_isSign 40 = .ok (.iconst 0, 1) := by decide +kernel
theorem dX7_isSign_41 : decode cX7_isSign 41 = .ok (.ireturn, 1) := by decide +kernel
theorem dX7_pass_0 : decode cX7_pass 0 = .ok (.aload_n 0, 1) := by decide +kernel
theorem dX7_pass_1 : decode cX7_pass 1 = .ok (.getfield 44, 3) := by decide +kernel
theorem dX7_pass_4 : decode cX7_pass 4 = .ok (.ifCond .eq 4, 3) := by decide +kernel
theorem dX7_pass_7 : decode cX7_pass 7 = .ok (.return_, 1) := by decide +kernel
theorem dX7_pass_8 : decode cX7_pass 8 = .ok (.aload_n 0, 1) := by decide +kernel
theorem dX7_pass_9 : decode cX7_pass 9 = .ok (.aload_n 0, 1) := by decide +kernel
theorem dX7_pass_10 : decode cX7_pass 10 = .ok (.getfield 41, 3) := by decide +kernel
theorem dX7_pass_13 : decode cX7_pass 13 = .ok (.putfield 60, 3) := by decide +kernel
theorem dX7_pass_16 : decode cX7_pass 16 = .ok (.aload_n 0, 1) := by decide +kernel
theorem dX7_pass_17 : decode cX7_pass 17 = .ok (.getfield 60, 3) := by decide +kernel
theorem dX7_pass_20 : decode cX7_pass 20 = .ok (.aload_n 0, 1) := by decide +kernel
theorem dX7_pass_21 : decode cX7_pass 21 = .ok (.getfield 38, 3) := by decide +kernel
theorem dX7_pass_24 : decode cX7_pass 24 = .ok (.if_icmp .ge 31, 3) := by decide +kernel
theorem dX7_pass_27 : decode cX7_pass 27 = .ok (.aload_n 0, 1) := by decide +kernel
theorem dX7_pass_28 : decode cX7_pass 28 = .ok (.getfield 11, 3) := by decide +kernel
theorem dX7_pass_31 : decode cX7_pass 31 = .ok (.aload_n 0, 1) := by decide +kernel
theorem dX7_pass_32 : decode cX7_pass 32 = .ok (.getfield 60, 3) := by decide +kernel
theorem dX7_pass_35 : decode cX7_pass 35 = .ok (.baload, 1) := by decide +kernel
theorem dX7_pass_36 : decode cX7_pass 36 = .ok (.invokestatic 63, 3) := by decide +kernel
theorem dX7_pass_39 : decode cX7_pass 39 = .ok (.ifCond .eq 16, 3) := by decide +kernel
theorem dX7_pass_42 : decode cX7_pass 42 = .ok (.aload_n 0, 1) := by decide +kernel
theorem dX7_pass_43 : decode cX7_pass 43 = .ok (.dup, 1) := by decide +kernel
theorem dX7_pass_44 : decode cX7_pass 44 = .ok (.getfield 60, 3) := by decide +kernel
theorem dX7_pass_47 : decode cX7_pass 47 = .ok (.iconst 1, 1) := by decide +kernel
theorem dX7_pass_48 : decode cX7_pass 48 = .ok (.iadd, 1) := by decide +kernel
theorem dX7_pass_49 : decode cX7_pass 49 = .ok (.putfield 60, 3) := by decide +kernel
theorem dX7_pass_52 : decode cX7_pass 52 = .ok (.goto (-36), 3) := by decide +kernel
theorem dX7_pass_55 : decode cX7_pass 55 = .ok (.aload_n 0, 1) := by decide +kernel
theorem dX7_pass_56 : decode cX7_pass 56 = .ok (.getfield 60, 3) := by decide +kernel
theorem dX7_pass_59 : decode cX7_pass 59 = .ok (.aload_n 0, 1) := by decide +kernel
theorem dX7_pass_60 : decode cX7_pass 60 = .ok (.getfield 38, 3) := by decide +kernel
theorem dX7_pass_63 : decode cX7_pass 63 = .ok (.if_icmp .lt 17, 3) := by decide +kernel
theorem dX7_pass_66 : decode cX7_pass 66 = .ok (.aload_n 0, 1) := by decide +kernel
theorem dX7_pass_67 : decode cX7_pass 67 = .ok (.aload_n 0, 1) := by decide +kernel
theorem dX7_pass_68 : decode cX7_pass 68 = .ok (.getfield 38, 3) := by decide +kernel
theorem dX7_pass_71 : decode cX7_pass 71 = .ok (.putfield 60, 3) := by decide +kernel
theorem dX7_pass_74 : decode cX7_pass 74 = .ok (.aload_n 0, 1) := by decide +kernel
theorem dX7_pass_75 : decode cX7_pass 75 = .ok (.iconst 0, 1) := by decide +kernel
theorem dX7_pass_76 : decode cX7_pass 76 = .ok (.putfield 53, 3) := by decide +kernel
theorem dX7_pass_79 : decode cX7_pass 79 = .ok (.return_, 1) := by decide +kernel
theorem dX7_pass_80 : decode cX7_pass 80 = .ok (.aload_n 0, 1) := by decide +kernel
theorem dX7_pass_81 : decode cX7_pass 81 = .ok (.getfield 11, 3) := by decide +kernel
theorem dX7_pass_84 : decode cX7_pass 84 = .ok (.aload_n 0, 1) := by decide +kernel
theorem dX7_pass_85 : decode cX7_pass 85 = .ok (.getfield 60, 3) := by decide +kernel
theorem dX7_pass_88 : decode cX7_pass 88 = .ok (.baload, 1) := by decide +kernel
theorem dX7_pass_89 : decode cX7_pass 89 = .ok (.istore_n 1, 1) := by decide +kernel
theorem dX7_pass_90 : decode cX7_pass 90 = .ok (.aload_n 0, 1) := by decide +kernel
theorem dX7_pass_91 : decode cX7_pass 91 = .ok (.aload_n 0, 1) := by decide +kernel
theorem dX7_pass_92 : decode cX7_pass 92 = .ok (.getfield 60, 3) := by decide +kernel
theorem dX7_pass_95 : decode cX7_pass 95 = .ok (.putfield 41, 3) := by decide +kernel
theorem dX7_pass_98 : decode cX7_pass 98 = .ok (.iload_n 1, 1) := by decide +kernel
theorem dX7_pass_99 : decode cX7_pass 99 = .ok (.bipush 97, 2) := by decide +kernel
theorem dX7_pass_101 : decode cX7_pass 101 = .ok (.if_icmp .lt 9, 3) := by decide +kernel
theorem dX7_pass_104 : decode cX7_pass 104 = .ok (.iload_n 1, 1) := by decide +kernel
theorem dX7_pass_105 : decode cX7_pass 105 = .ok (.bipush 122, 2) := by decide +kernel
theorem dX7_pass_107 : decode cX7_pass 107 = .ok (.if_icmp .le 15, 3) := by decide +kernel
theorem dX7_pass_110 : decode cX7_pass 110 = .ok (.iload_n 1, 1) := by decide +kernel
theorem dX7_pass_111 : decode cX7_pass 111 = .ok (.bipush 48, 2) := by decide +kernel
theorem dX7_pass_113 : decode cX7_pass 113 = .ok (.if_icmp .lt 16, 3) := by decide +kernel
theorem dX7_pass_116 : decode cX7_pass 116 = .ok (.iload_n 1, 1) := by decide +kernel
theorem dX7_pass_117 : decode cX7_pass 117 = .ok (.bipush 57, 2) := by decide +kernel
theorem dX7_pass_119 : decode cX7_pass 119 = .ok (.if_icmp .gt 10, 3) := by decide +kernel
theorem dX7_pass_122 : decode cX7_pass 122 = .ok (.aload_n 0, 1) := by decide +kernel
theorem dX7_pass_123 : decode cX7_pass 123 = .ok (.invokevirtual 67, 3) := by decide +kernel
theorem dX7_pass_126 : decode cX7_pass 126 = .ok (.goto 29, 3) := by decide +kernel
theorem dX7_pass_129 : decode cX7_pass 129 = .ok (.aload_n 0, 1) := by decide +kernel
theorem dX7_pass_130 : decode cX7_pass 130 = .ok (.iload_n 1, 1) := by decide +kernel
theorem dX7_pass_131 : decode cX7_pass 131 = .ok (.invokestatic 70, 3) := by decide +kernel
theorem dX7_pass_134 : decode cX7_pass 134 = .ok (.ifCond .eq 7, 3) := by decide +kernel
theorem dX7_pass_137 : decode cX7_pass 137 = .ok (.iload_n 1, 1) := by decide +kernel
theorem dX7_pass_138 : decode cX7_pass 138 = .ok (.goto 4, 3) := by decide +kernel
theorem dX7_pass_141 : decode cX7_pass 141 = .ok (.iconst 1, 1) := by decide +kernel
theorem dX7_pass_142 : decode cX7_pass 142 = .ok (.putfield 53, 3) := by decide +kernel
theorem dX7_pass_145 : decode cX7_pass 145 = .ok (.aload_n 0, 1) := by decide +kernel
theorem dX7_pass_146 : decode cX7_pass 146 = .ok (.dup, 1) := by decide +kernel
theorem dX7_pass_147 : decode cX7_pass 147 = .ok (.getfield 41, 3) := by decide +kernel
theorem dX7_pass_150 : decode cX7_pass 150 = .ok (.iconst 1, 1) := by decide +kernel
theorem dX7_pass_151 : decode cX7_pass 151 = .ok (.iadd, 1) := by decide +kernel
theorem dX7_pass_152 : decode cX7_pass 152 = .ok (.putfield 41, 3) := by decide +kernel
theorem dX7_pass_155 : decode cX7_pass 155 = .ok (.return_, 1) := by decide +kernel
theorem dX7_passOnly_0 : decode cX7_passOnly 0 = .ok (.aload_n 0, 1) := by decide +kernel
theorem dX7_passOnly_1 : decode cX7_passOnly 1 = .ok (.getfield 53, 3) := by decide +kernel
theorem dX7_passOnly_4 : decode cX7_passOnly 4 = .ok (.iload_n 1, 1) := by decide +kernel
theorem dX7_passOnly_5 : decode cX7_passOnly 5 = .ok (.if_icmp .eq 8, 3) := by decide +kernel
theorem dX7_passOnly_8 : decode cX7_passOnly 8 = .ok (.aload_n 0, 1) := by decide +kernel
theorem dX7_passOnly_9 : decode cX7_passOnly 9 = .ok (.iconst 1, 1) := by decide +kernel
theorem dX7_passOnly_10 : decode cX7_passOnly 10 = .ok (.invokevirtual 56, 3) := by decide +kernel
theorem dX7_passOnly_13 : decode cX7_passOnly 13 = .ok (.aload_n 0, 1) := by decide +kernel
theorem dX7_passOnly_14 : decode cX7_passOnly 14 = .ok (.invokevirtual 50, 3) := by decide +kernel
theorem dX7_passOnly_17 : decode cX7_passOnly 17 = .ok (.return_, 1) := by decide +kernel
theorem dX7_putFour_0 : decode cX7_putFour 0 = .ok (.bipush 24, 2) := by decide +kernel
theorem dX7_putFour_2 : decode cX7_putFour 2 = .ok (.istore_n 2, 1) := by decide +kernel
theorem dX7_putFour_3 : decode cX7_putFour 3 = .ok (.iload_n 2, 1) := by decide +kernel
theorem dX7_putFour_4 : decode cX7_putFour 4 = .ok (.ifCond .lt 44, 3) := by decide +kernel
theorem dX7_putFour_7 : decode cX7_putFour 7 = .ok (.aload_n 0, 1) := by decide +kernel
theorem dX7_putFour_8 : decode cX7_putFour 8 = .ok (.getfield 19, 3) := by decide +kernel
theorem dX7_putFour_11 : decode cX7_putFour 11 = .ok (.aload_n 0, 1) := by decide +kernel
theorem dX7_putFour_12 : decode cX7_putFour 12 = .ok (.getfield 11, 3) := by decide +kernel
theorem dX7_putFour_15 : decode cX7_putFour 15 = .ok (.arraylength, 1) := by decide +kernel
theorem dX7_putFour_16 : decode cX7_putFour 16 = .ok (.if_icmp .ge 32, 3) := by decide +kernel
theorem dX7_putFour_19 : decode cX7_putFour 19 = .ok (.aload_n 0, 1) := by decide +kernel
theorem dX7_putFour_20 : decode cX7_putFour 20 = .ok (.getfield 11, 3) := by decide +kernel
theorem dX7_putFour_23 : decode cX7_putFour 23 = .ok (.aload_n 0, 1) := by decide +kernel
theorem dX7_putFour_24 : decode cX7_putFour 24 = .ok (.getfield 19, 3) := by decide +kernel
theorem dX7_putFour_27 : decode cX7_putFour 27 = .ok (.iload_n 1, 1) := by decide +kernel
theorem dX7_putFour_28 : decode cX7_putFour 28 = .ok (.iload_n 2, 1) := by decide +kernel
theorem dX7_putFour_29 : decode cX7_putFour 29 = .ok (.iushr, 1) := by decide +kernel
theorem dX7_putFour_30 : decode cX7_putFour 30 = .ok (.i2b, 1) := by decide +kernel
theorem dX7_putFour_31 : decode cX7_putFour 31 = .ok (.bastore, 1) := by decide +kernel
theorem dX7_putFour_32 : decode cX7_putFour 32 = .ok (.aload_n 0, 1) := by decide +kernel
theorem dX7_putFour_33 : decode cX7_putFour 33 = .ok (.dup, 1) := by decide +kernel
theorem dX7_putFour_34 : decode cX7_putFour 34 = .ok (.getfield 19, 3) := by decide +kernel
theorem dX7_putFour_37 : decode cX7_putFour 37 = .ok (.iconst 1, 1) := by decide +kernel
theorem dX7_putFour_38 : decode cX7_putFour 38 = .ok (.iadd, 1) := by decide +kernel
theorem dX7_putFour_39 : decode cX7_putFour 39 = .ok (.putfield 19, 3) := by decide +kernel
theorem dX7_putFour_42 : decode cX7_putFour 42 = .ok (.iinc 2 (-8), 3) := by decide +kernel
theorem dX7_putFour_45 : decode cX7_putFour 45 = .ok (.goto (-42), 3) := by decide +kernel
theorem dX7_putFour_48 : decode cX7_putFour 48 = .ok (.return_, 1) := by decide +kernel
theorem dX7_readRun_0 : decode cX7_readRun 0 = .ok (.iconst 0, 1) := by decide +kernel
theorem dX7_readRun_1 : decode cX7_readRun 1 = .ok (.istore_n 1, 1) := by decide +kernel
theorem dX7_readRun_2 : decode cX7_readRun 2 = .ok (.iconst 0, 1) := by decide +kernel
theorem dX7_readRun_3 : decode cX7_readRun 3 = .ok (.istore_n 2, 1) := by decide +kernel
theorem dX7_readRun_4 : decode cX7_readRun 4 = .ok (.lconst 0, 1) := by decide +kernel
theorem dX7_readRun_5 : decode cX7_readRun 5 = .ok (.lstore_n 3, 1) := by decide +kernel
theorem dX7_readRun_6 : decode cX7_readRun 6 = .ok (.iconst 0, 1) := by decide +kernel
theorem dX7_readRun_7 : decode cX7_readRun 7 = .ok (.istore 5, 2) := by decide +kernel
theorem dX7_readRun_9 : decode cX7_readRun 9 = .ok (.iconst 1, 1) := by decide +kernel
theorem dX7_readRun_10 : decode cX7_readRun 10 = .ok (.istore 6, 2) := by decide +kernel
theorem dX7_readRun_12 : decode cX7_readRun 12 = .ok (.iload 6, 2) := by decide +kernel
theorem dX7_readRun_14 : decode cX7_readRun 14 = .ok (.ifCond .eq 113, 3) := by decide +kernel
theorem dX7_readRun_17 : decode cX7_readRun 17 = .ok (.aload_n 0, 1) := by decide +kernel
theorem dX7_readRun_18 : decode cX7_readRun 18 = .ok (.getfield 41, 3) := by decide +kernel
theorem dX7_readRun_21 : decode cX7_readRun 21 = .ok (.aload_n 0, 1) := by decide +kernel
theorem dX7_readRun_22 : decode cX7_readRun 22 = .ok (.getfield 19, 3) := by decide +kernel
theorem dX7_readRun_25 : decode cX7_readRun 25 = .ok (.if_icmp .ge 102, 3) := by decide +kernel
theorem dX7_readRun_28 : decode cX7_readRun 28 = .ok (.aload_n 0, 1) := by decide +kernel
theorem dX7_readRun_29 : decode cX7_readRun 29 = .ok (.getfield 11, 3) := by decide +kernel
theorem dX7_readRun_32 : decode cX7_readRun 32 = .ok (.aload_n 0, 1) := by decide +kernel
theorem dX7_readRun_33 : decode cX7_readRun 33 = .ok (.getfield 41, 3) := by decide +kernel
theorem dX7_readRun_36 : decode cX7_readRun 36 = .ok (.baload, 1) := by decide +kernel
theorem dX7_readRun_37 : decode cX7_readRun 37 = .ok (.istore 7, 2) := by decide +kernel
theorem dX7_readRun_39 : decode cX7_readRun 39 = .ok (.iload 7, 2) := by decide +kernel
theorem dX7_readRun_41 : decode cX7_readRun 41 = .ok (.bipush 97, 2) := by decide +kernel
theorem dX7_readRun_43 : decode cX7_readRun 43 = .ok (.if_icmp .lt 35, 3) := by decide +kernel
theorem dX7_readRun_46 : decode cX7_readRun 46 = .ok (.iload 7, 2) := by decide +kernel
theorem dX7_readRun_48 : decode cX7_readRun 48 = .ok (.bipush 122, 2) := by decide +kernel
theorem dX7_readRun_50 : decode cX7_readRun 50 = .ok (.if_icmp .gt 28, 3) := by decide +kernel
theorem dX7_readRun_53 : decode cX7_readRun 53 = .ok (.iinc 1 1, 3) := by decide +kernel
theorem dX7_readRun_56 : decode cX7_readRun 56 = .ok (.lload_n 3, 1) := by decide +kernel
theorem dX7_readRun_57 : decode cX7_readRun 57 = .ok (.bipush 8, 2) := by decide +kernel
theorem dX7_readRun_59 : decode cX7_readRun 59 = .ok (.lshl, 1) := by decide +kernel
theorem dX7_readRun_60 : decode cX7_readRun 60 = .ok (.iload 7, 2) := by decide +kernel
theorem dX7_readRun_62 : decode cX7_readRun 62 = .ok (.i2l, 1) := by decide +kernel
theorem dX7_readRun_63 : decode cX7_readRun 63 = .ok (.lor, 1) := by decide +kernel
theorem dX7_readRun_64 : decode cX7_readRun 64 = .ok (.lstore_n 3, 1) := by decide +kernel
theorem dX7_readRun_65 : decode cX7_readRun 65 = .ok (.aload_n 0, 1) := by decide +kernel
theorem dX7_readRun_66 : decode cX7_readRun 66 = .ok (.dup, 1) := by decide +kernel
theorem dX7_readRun_67 : decode cX7_readRun 67 = .ok (.getfield 41, 3) := by decide +kernel
theorem dX7_readRun_70 : decode cX7_readRun 70 = .ok (.iconst 1, 1) := by decide +kernel
theorem dX7_readRun_71 : decode cX7_readRun 71 = .ok (.iadd, 1) := by decide +kernel
theorem dX7_readRun_72 : decode cX7_readRun 72 = .ok (.putfield 41, 3) := by decide +kernel
theorem dX7_readRun_75 : decode cX7_readRun 75 = .ok (.goto 49, 3) := by decide +kernel
theorem dX7_readRun_78 : decode cX7_readRun 78 = .ok (.iload 7, 2) := by decide +kernel
theorem dX7_readRun_80 : decode cX7_readRun 80 = .ok (.bipush 48, 2) := by decide +kernel
theorem dX7_readRun_82 : decode cX7_readRun 82 = .ok (.if_icmp .lt 39, 3) := by decide +kernel
theorem dX7_readRun_85 : decode cX7_readRun 85 = .ok (.iload 7, 2) := by decide +kernel
theorem dX7_readRun_87 : decode cX7_readRun 87 = .ok (.bipush 57, 2) := by decide +kernel
theorem dX7_readRun_89 : decode cX7_readRun 89 = .ok (.if_icmp .gt 32, 3) := by decide +kernel
theorem dX7_readRun_92 : decode cX7_readRun 92 = .ok (.iinc 2 1, 3) := by decide +kernel
theorem dX7_readRun_95 : decode cX7_readRun 95 = .ok (.iload 5, 2) := by decide +kernel
theorem dX7_readRun_97 : decode cX7_readRun 97 = .ok (.bipush 10, 2) := by decide +kernel
theorem dX7_readRun_99 : decode cX7_readRun 99 = .ok (.imul, 1) := by decide +kernel
theorem dX7_readRun_100 : decode cX7_readRun 100 = .ok (.iload 7, 2) := by decide +kernel
theorem dX7_readRun_102 : decode cX7_readRun 102 = .ok (.bipush 48, 2) := by decide +kernel
theorem dX7_readRun_104 : decode cX7_readRun 104 = .ok (.isub, 1) := by decide +kernel
theorem dX7_readRun_105 : decode cX7_readRun 105 = .ok (.iadd, 1) := by decide +kernel
theorem dX7_readRun_106 : decode cX7_readRun 106 = .ok (.istore 5, 2) := by decide +kernel
theorem dX7_readRun_108 : decode cX7_readRun 108 = .ok (.aload_n 0, 1) := by decide +kernel
theorem dX7_readRun_109 : decode cX7_readRun 109 = .ok (.dup, 1) := by decide +kernel
theorem dX7_readRun_110 : decode cX7_readRun 110 = .ok (.getfield 41, 3) := by decide +kernel
theorem dX7_readRun_113 : decode cX7_readRun 113 = .ok (.iconst 1, 1) := by decide +kernel
theorem dX7_readRun_114 : decode cX7_readRun 114 = .ok (.iadd, 1) := by decide +kernel
theorem dX7_readRun_115 : decode cX7_readRun 115 = .ok (.putfield 41, 3) := by decide +kernel
theorem dX7_readRun_118 : decode cX7_readRun 118 = .ok (.goto 6, 3) := by decide +kernel
theorem dX7_readRun_121 : decode cX7_readRun 121 = .ok (.iconst 0, 1) := by decide +kernel
theorem dX7_readRun_122 : decode cX7_readRun 122 = .ok (.istore 6, 2) := by decide +kernel
theorem dX7_readRun_124 : decode cX7_readRun 124 = .ok (.goto (-112), 3) := by decide +kernel
theorem dX7_readRun_127 : decode cX7_readRun 127 = .ok (.aload_n 0, 1) := by decide +kernel
theorem dX7_readRun_128 : decode cX7_readRun 128 = .ok (.iconst 1, 1) := by decide +kernel
theorem dX7_readRun_129 : decode cX7_readRun 129 = .ok (.putfield 53, 3) := by decide +kernel
theorem dX7_readRun_132 : decode cX7_readRun 132 = .ok (.iload_n 1, 1) := by decide +kernel
theorem dX7_readRun_133 : decode cX7_readRun 133 = .ok (.ifCond .ne 22, 3) := by decide +kernel
theorem dX7_readRun_136 : decode cX7_readRun 136 = .ok (.iload_n 2, 1) := by decide +kernel
theorem dX7_readRun_137 : decode cX7_readRun 137 = .ok (.iconst 3, 1) := by decide +kernel
theorem dX7_readRun_138 : decode cX7_readRun 138 = .ok (.if_icmp .gt 17, 3) := by decide +kernel
theorem dX7_readRun_141 : decode cX7_readRun 141 = .ok (.aload_n 0, 1) := by decide +kernel
theorem dX7_readRun_142 : decode cX7_readRun 142 = .ok (.iconst 3, 1) := by decide +kernel
theorem dX7_readRun_143 : decode cX7_readRun 143 = .ok (.putfield 53, 3) := by decide +kernel
theorem dX7_readRun_146 : decode cX7_readRun 146 = .ok (.aload_n 0, 1) := by decide +kernel
theorem dX7_readRun_147 : decode cX7_readRun 147 = .ok (.iload 5, 2) := by decide +kernel
theorem dX7_readRun_149 : decode cX7_readRun 149 = .ok (.putfield 73, 3) := by decide +kernel
theorem dX7_readRun_152 : decode cX7_readRun 152 = .ok (.goto 64, 3) := by decide +kernel
theorem dX7_readRun_155 : decode cX7_readRun 155 = .ok (.iload_n 2, 1) := by decide +kernel
theorem dX7_readRun_156 : decode cX7_readRun 156 = .ok (.ifCond .ne 60, 3) := by decide +kernel
theorem dX7_readRun_159 : decode cX7_readRun 159 = .ok (.iload_n 1, 1) := by decide +kernel
theorem dX7_readRun_160 : decode cX7_readRun 160 = .ok (.bipush 7, 2) := by decide +kernel
theorem dX7_readRun_162 : decode cX7_readRun 162 = .ok (.if_icmp .gt 54, 3) := by decide +kernel
theorem dX7_readRun_165 : decode cX7_readRun 165 = .ok (.aload_n 0, 1) := by decide +kernel
theorem dX7_readRun_166 : decode cX7_readRun 166 = .ok (.iconst 2, 1) := by decide +kernel
theorem dX7_readRun_167 : decode cX7_readRun 167 = .ok (.putfield 53, 3) := by decide +kernel
theorem dX7_readRun_170 : decode cX7_readRun 170 = .ok (.aload_n 0, 1) := by decide +kernel
theorem dX7_readRun_171 : decode cX7_readRun 171 = .ok (.lload_n 3, 1) := by decide +kernel
theorem dX7_readRun_172 : decode cX7_readRun 172 = .ok (.putfield 76, 3) := by decide +kernel
theorem dX7_readRun_175 : decode cX7_readRun 175 = .ok (.iconst 0, 1) := by decide +kernel
theorem dX7_readRun_176 : decode cX7_readRun 176 = .ok (.istore 7, 2) := by decide +kernel
theorem dX7_readRun_178 : decode cX7_readRun 178 = .ok (.iload 7, 2) := by decide +kernel
theorem dX7_readRun_180 : decode cX7_readRun 180 = .ok (.aload_n 0, 1) := by decide +kernel
theorem dX7_readRun_181 : decode cX7_readRun 181 = .ok (.getfield 15, 3) := by decide +kernel
theorem dX7_readRun_184 : decode cX7_readRun 184 = .ok (.arraylength, 1) := by decide +kernel
theorem dX7_readRun_185 : decode cX7_readRun 185 = .ok (.if_icmp .ge 31, 3) := by decide +kernel
theorem dX7_readRun_188 : decode cX7_readRun 188 = .ok (.aload_n 0, 1) := by decide +kernel
theorem dX7_readRun_189 : decode cX7_readRun 189 = .ok (.getfield 15, 3) := by decide +kernel
theorem dX7_readRun_192 : decode cX7_readRun 192 = .ok (.iload 7, 2) := by decide +kernel
theorem dX7_readRun_194 : decode cX7_readRun 194 = .ok (.laload, 1) := by decide +kernel
theorem dX7_readRun_195 : decode cX7_readRun 195 = .ok (.lload_n 3, 1) := by decide +kernel
theorem dX7_readRun_196 : decode cX7_readRun 196 = .ok (.lcmp, 1) := by decide +kernel
theorem dX7_readRun_197 : decode cX7_readRun 197 = .ok (.ifCond .ne 13, 3) := by decide +kernel
theorem dX7_readRun_200 : decode cX7_readRun 200 = .ok (.aload_n 0, 1) := by decide +kernel
theorem dX7_readRun_201 : decode cX7_readRun 201 = .ok (.sipush 128, 3) := by decide +kernel
theorem dX7_readRun_204 : decode cX7_readRun 204 = .ok (.iload 7, 2) := by decide +kernel
theorem dX7_readRun_206 : decode cX7_readRun 206 = .ok (.iadd, 1) := by decide +kernel
theorem dX7_readRun_207 : decode cX7_readRun 207 = .ok (.putfield 53, 3) := by decide +kernel
theorem dX7_readRun_210 : decode cX7_readRun 210 = .ok (.iinc 7 1, 3) := by decide +kernel
theorem dX7_readRun_213 : decode cX7_readRun 213 = .ok (.goto (-35), 3) := by decide +kernel
theorem dX7_readRun_216 : decode cX7_readRun 216 = .ok (.return_, 1) := by decide +kernel
theorem dX7_refuse_0 : decode cX7_refuse 0 = .ok (.aload_n 0, 1) := by decide +kernel
theorem dX7_refuse_1 : decode cX7_refuse 1 = .ok (.getfield 44, 3) := by decide +kernel
theorem dX7_refuse_4 : decode cX7_refuse 4 = .ok (.ifCond .ne 16, 3) := by decide +kernel
theorem dX7_refuse_7 : decode cX7_refuse 7 = .ok (.aload_n 0, 1) := by decide +kernel
theorem dX7_refuse_8 : decode cX7_refuse 8 = .ok (.iload_n 1, 1) := by decide +kernel
theorem dX7_refuse_9 : decode cX7_refuse 9 = .ok (.putfield 44, 3) := by decide +kernel
theorem dX7_refuse_12 : decode cX7_refuse 12 = .ok (.aload_n 0, 1) := by decide +kernel
theorem dX7_refuse_13 : decode cX7_refuse 13 = .ok (.aload_n 0, 1) := by decide +kernel
theorem dX7_refuse_14 : decode cX7_refuse 14 = .ok (.getfield 60, 3) := by decide +kernel
theorem dX7_refuse_17 : decode cX7_refuse 17 = .ok (.putfield 47, 3) := by decide +kernel
theorem dX7_refuse_20 : decode cX7_refuse 20 = .ok (.return_, 1) := by decide +kernel
theorem dX7_sees_0 : decode cX7_sees 0 = .ok (.aload_n 0, 1) := by decide +kernel
theorem dX7_sees_1 : decode cX7_sees 1 = .ok (.getfield 44, 3) := by decide +kernel
theorem dX7_sees_4 : decode cX7_sees 4 = .ok (.ifCond .ne 15, 3) := by decide +kernel
theorem dX7_sees_7 : decode cX7_sees 7 = .ok (.aload_n 0, 1) := by decide +kernel
theorem dX7_sees_8 : decode cX7_sees 8 = .ok (.getfield 53, 3) := by decide +kernel
theorem dX7_sees_11 : decode cX7_sees 11 = .ok (.iload_n 1, 1) := by decide +kernel
theorem dX7_sees_12 : decode cX7_sees 12 = .ok (.if_icmp .ne 7, 3) := by decide +kernel
theorem dX7_sees_15 : decode cX7_sees 15 = .ok (.iconst 1, 1) := by decide +kernel
theorem dX7_sees_16 : decode cX7_sees 16 = .ok (.goto 4, 3) := by decide +kernel
theorem dX7_sees_19 : decode cX7_sees 19 = .ok (.iconst 0, 1) := by decide +kernel
theorem dX7_sees_20 : decode cX7_sees 20 = .ok (.ireturn, 1) := by decide +kernel
theorem dX7_startText_0 : decode cX7_startText 0 = .ok (.aload_n 0, 1) := by decide +kernel
theorem dX7_startText_1 : decode cX7_startText 1 = .ok (.aload_n 0, 1) := by decide +kernel
theorem dX7_startText_2 : decode cX7_startText 2 = .ok (.getfield 19, 3) := by decide +kernel
theorem dX7_startText_5 : decode cX7_startText 5 = .ok (.iload_n 1, 1) := by decide +kernel
theorem dX7_startText_6 : decode cX7_startText 6 = .ok (.if_icmp .le 7, 3) := by decide +kernel
theorem dX7_startText_9 : decode cX7_startText 9 = .ok (.iconst 1, 1) := by decide +kernel
theorem dX7_startText_10 : decode cX7_startText 10 = .ok (.goto 4, 3) := by decide +kernel
theorem dX7_startText_13 : decode cX7_startText 13 = .ok (.iconst 0, 1) := by decide +kernel
theorem dX7_startText_14 : decode cX7_startText 14 = .ok (.putfield 34, 3) := by decide +kernel
theorem dX7_startText_17 : decode cX7_startText 17 = .ok (.aload_n 0, 1) := by decide +kernel
theorem dX7_startText_18 : decode cX7_startText 18 = .ok (.aload_n 0, 1) := by decide +kernel
theorem dX7_startText_19 : decode cX7_startText 19 = .ok (.getfield 34, 3) := by decide +kernel
theorem dX7_startText_22 : decode cX7_startText 22 = .ok (.ifCond .eq 7, 3) := by decide +kernel
theorem dX7_startText_25 : decode cX7_startText 25 = .ok (.iload_n 1, 1) := by decide +kernel
theorem dX7_startText_26 : decode cX7_startText 26 = .ok (.goto 7, 3) := by decide +kernel
theorem dX7_startText_29 : decode cX7_startText 29 = .ok (.aload_n 0, 1) := by decide +kernel
theorem dX7_startText_30 : decode cX7_startText 30 = .ok (.getfield 19, 3) := by decide +kernel
theorem dX7_startText_33 : decode cX7_startText 33 = .ok (.putfield 38, 3) := by decide +kernel
theorem dX7_startText_36 : decode cX7_startText 36 = .ok (.aload_n 0, 1) := by decide +kernel
theorem dX7_startText_37 : decode cX7_startText 37 = .ok (.iconst 0, 1) := by decide +kernel
theorem dX7_startText_38 : decode cX7_startText 38 = .ok (.putfield 41, 3) := by decide +kernel
theorem dX7_startText_41 : decode cX7_startText 41 = .ok (.aload_n 0, 1) := by decide +kernel
theorem dX7_startText_42 : decode cX7_startText 42 = .ok (.iconst 0, 1) := by decide +kernel
theorem dX7_startText_43 : decode cX7_startText 43 = .ok (.putfield 44, 3) := by decide +kernel
theorem dX7_startText_46 : decode cX7_startText 46 = .ok (.aload_n 0, 1) := by decide +kernel
theorem dX7_startText_47 : decode cX7_startText 47 = .ok (.iconst 0, 1) := by decide +kernel
theorem dX7_startText_48 : decode cX7_startText 48 = .ok (.putfield 47, 3) := by decide +kernel
theorem dX7_startText_51 : decode cX7_startText 51 = .ok (.aload_n 0, 1) := by decide +kernel
theorem dX7_startText_52 : decode cX7_startText 52 = .ok (.invokevirtual 50, 3) := by decide +kernel
theorem dX7_startText_55 : decode cX7_startText 55 = .ok (.return_, 1) := by decide +kernel
theorem dX7_takeNumber_0 : decode cX7_takeNumber 0 = .ok (.aload_n 0, 1) := by decide +kernel
theorem dX7_takeNumber_1 : decode cX7_takeNumber 1 = .ok (.getfield 73, 3) := by decide +kernel
theorem dX7_takeNumber_4 : decode cX7_takeNumber 4 = .ok (.istore_n 3, 1) := by decide +kernel
theorem dX7_takeNumber_5 : decode cX7_takeNumber 5 = .ok (.aload_n 0, 1) := by decide +kernel
theorem dX7_takeNumber_6 : decode cX7_takeNumber 6 = .ok (.getfield 53, 3) := by decide +kernel
theorem dX7_takeNumber_9 : decode cX7_takeNumber 9 = .ok (.iconst 3, 1) := by decide +kernel
theorem dX7_takeNumber_10 : decode cX7_takeNumber 10 = .ok (.if_icmp .eq 11, 3) := by decide +kernel
theorem dX7_takeNumber_13 : decode cX7_takeNumber 13 = .ok (.aload_n 0, 1) := by decide +kernel
theorem dX7_takeNumber_14 : decode cX7_takeNumber 14 = .ok (.iconst 1, 1) := by decide +kernel
theorem dX7_takeNumber_15 : decode cX7_takeNumber 15 = .ok (.invokevirtual 56, 3) := by decide +kernel
theorem dX7_takeNumber_18 : decode cX7_takeNumber 18 = .ok (.goto 18, 3) := by decide +kernel
theorem dX7_takeNumber_21 : decode cX7_takeNumber 21 = .ok (.iload_n 3, 1) := by decide +kernel
theorem dX7_takeNumber_22 : decode cX7_takeNumber 22 = .ok (.iload_n 1, 1) := by decide +kernel
theorem dX7_takeNumber_23 : decode cX7_takeNumber 23 = .ok (.if_icmp .lt 8, 3) := by decide +kernel
theorem dX7_takeNumber_26 : decode cX7_takeNumber 26 = .ok (.iload_n 3, 1) := by decide +kernel
theorem dX7_takeNumber_27 : decode cX7_takeNumber 27 = .ok (.iload_n 2, 1) := by decide +kernel
theorem dX7_takeNumber_28 : decode cX7_takeNumber 28 = .ok (.if_icmp .le 8, 3) := by decide +kernel
theorem dX7_takeNumber_31 : decode cX7_takeNumber 31 = .ok (.aload_n 0, 1) := by decide +kernel
theorem dX7_takeNumber_32 : decode cX7_takeNumber 32 = .ok (.iconst 2, 1) := by decide +kernel
theorem dX7_takeNumber_33 : decode cX7_takeNumber 33 = .ok (.invokevirtual 56, 3) := by decide +kernel
theorem dX7_takeNumber_36 : decode cX7_takeNumber 36 = .ok (.aload_n 0, 1) := by decide +kernel
theorem dX7_takeNumber_37 : decode cX7_takeNumber 37 = .ok (.invokevirtual 50, 3) := by decide +kernel
theorem dX7_takeNumber_40 : decode cX7_takeNumber 40 = .ok (.iload_n 3, 1) := by decide +kernel
theorem dX7_takeNumber_41 : decode cX7_takeNumber 41 = .ok (.ireturn, 1) := by decide +kernel
theorem rl_20 : RI 20 20 20 := by unfold RI; decide +kernel
theorem rl_24 : RI 24 24 24 := by unfold RI; decide +kernel
theorem rl_28 : RI 28 28 28 := by unfold RI; decide +kernel
theorem rl_32 : RI 32 32 32 := by unfold RI; decide +kernel
theorem rl_40 : RI 40 40 40 := by unfold RI; decide +kernel
theorem rl_41 : RI 41 41 41 := by unfold RI; decide +kernel
theorem rl_48 : RI 48 48 48 := by unfold RI; decide +kernel
theorem rl_57 : RI 57 57 57 := by unfold RI; decide +kernel
theorem rl_59 : RI 59 59 59 := by unfold RI; decide +kernel
theorem rl_60 : RI 60 60 60 := by unfold RI; decide +kernel
theorem rl_61 : RI 61 61 61 := by unfold RI; decide +kernel
theorem rl_62 : RI 62 62 62 := by unfold RI; decide +kernel
theorem rl_97 : RI 97 97 97 := by unfold RI; decide +kernel
theorem rl_122 : RI 122 122 122 := by unfold RI; decide +kernel
theorem rl_128 : RI 128 128 128 := by unfold RI; decide +kernel
theorem rl_255 : RI 255 255 255 := by unfold RI; decide +kernel
theorem rl_940 : RI 940 940 940 := by unfold RI; decide +kernel
theorem rk_0 : RJ 0 0 0 := by unfold RJ; decide +kernel
