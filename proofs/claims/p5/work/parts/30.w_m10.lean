theorem tw_7 : Cond.initialized RX0 ∈ gT := gT_t (List.mem_of_getElem? (i := 7) (by decide +kernel)) (by decide +kernel)
theorem tw_146 : Cond.fieldLink RX0 (25 : Nat) "WonderParcels$Book" "lived" "I" ∈ gT := gT_t (List.mem_of_getElem? (i := 146) (by decide +kernel)) (by decide +kernel)
theorem tw_205 : Cond.fieldLink RX3 (22 : Nat) "WonderParcels$Post" "need" "[I" ∈ gT := gT_t (List.mem_of_getElem? (i := 205) (by decide +kernel)) (by decide +kernel)
theorem tw_210 : Cond.fieldLink RX3 (28 : Nat) "WonderParcels$Post" "keen" "[I" ∈ gT := gT_t (List.mem_of_getElem? (i := 210) (by decide +kernel)) (by decide +kernel)
theorem tw_213 : Cond.fieldLink RX3 (31 : Nat) "WonderParcels$Post" "leak" "I" ∈ gT := gT_t (List.mem_of_getElem? (i := 213) (by decide +kernel)) (by decide +kernel)
theorem tw_216 : Cond.fieldLink RX3 (35 : Nat) "WonderParcels$Post" "guess" "I" ∈ gT := gT_t (List.mem_of_getElem? (i := 216) (by decide +kernel)) (by decide +kernel)
theorem tw_352 : Cond.fieldLink RX9 (19 : Nat) "WonderParcels" "book" "LWonderParcels$Book;" ∈ gT := gT_t (List.mem_of_getElem? (i := 352) (by decide +kernel)) (by decide +kernel)
theorem tw_416 : Cond.methodLink RX3 (45 : Nat) yX8_begin ∈ gT := gT_t (List.mem_of_getElem? (i := 416) (by decide +kernel)) (by decide +kernel)
theorem tw_417 : Cond.instanceMethod yX8_begin ∈ gT := gT_t (List.mem_of_getElem? (i := 417) (by decide +kernel)) (by decide +kernel)
theorem tw_418 : Cond.selects RX8 yX8_begin yX8_begin ∈ gT := gT_t (List.mem_of_getElem? (i := 418) (by decide +kernel)) (by decide +kernel)
theorem tw_419 : Cond.code yX8_begin cX8_begin 2 none ∈ gT := gT_t (List.mem_of_getElem? (i := 419) (by decide +kernel)) (by decide +kernel)
theorem tw_420 : Cond.methodLink RX3 (51 : Nat) yX7_startText ∈ gT := gT_t (List.mem_of_getElem? (i := 420) (by decide +kernel)) (by decide +kernel)
theorem tw_438 : Cond.methodLink RX3 (57 : Nat) yX7_goesOn ∈ gT := gT_t (List.mem_of_getElem? (i := 438) (by decide +kernel)) (by decide +kernel)
theorem tw_446 : Cond.methodLink RX3 (64 : Nat) yX3_beginsLine ∈ gT := gT_t (List.mem_of_getElem? (i := 446) (by decide +kernel)) (by decide +kernel)
theorem tw_448 : Cond.instanceMethod yX3_beginsLine ∈ gT := gT_t (List.mem_of_getElem? (i := 448) (by decide +kernel)) (by decide +kernel)
theorem tw_449 : Cond.code yX3_beginsLine cX3_beginsLine 3 (some .boolean) ∈ gT := gT_t (List.mem_of_getElem? (i := 449) (by decide +kernel)) (by decide +kernel)
theorem tw_452 : Cond.methodLink RX3 (68 : Nat) yX3_readSits ∈ gT := gT_t (List.mem_of_getElem? (i := 452) (by decide +kernel)) (by decide +kernel)
theorem tw_454 : Cond.instanceMethod yX3_readSits ∈ gT := gT_t (List.mem_of_getElem? (i := 454) (by decide +kernel)) (by decide +kernel)
theorem tw_455 : Cond.code yX3_readSits cX3_readSits 5 none ∈ gT := gT_t (List.mem_of_getElem? (i := 455) (by decide +kernel)) (by decide +kernel)
theorem tw_469 : Cond.methodLink RX3 (72 : Nat) yX3_readHas ∈ gT := gT_t (List.mem_of_getElem? (i := 469) (by decide +kernel)) (by decide +kernel)
theorem tw_471 : Cond.instanceMethod yX3_readHas ∈ gT := gT_t (List.mem_of_getElem? (i := 471) (by decide +kernel)) (by decide +kernel)
theorem tw_472 : Cond.code yX3_readHas cX3_readHas 7 none ∈ gT := gT_t (List.mem_of_getElem? (i := 472) (by decide +kernel)) (by decide +kernel)
theorem tw_491 : Cond.methodLink RX3 (75 : Nat) yX3_readQuarrel ∈ gT := gT_t (List.mem_of_getElem? (i := 491) (by decide +kernel)) (by decide +kernel)
theorem tw_493 : Cond.instanceMethod yX3_readQuarrel ∈ gT := gT_t (List.mem_of_getElem? (i := 493) (by decide +kernel)) (by decide +kernel)
theorem tw_494 : Cond.code yX3_readQuarrel cX3_readQuarrel 5 none ∈ gT := gT_t (List.mem_of_getElem? (i := 494) (by decide +kernel)) (by decide +kernel)
theorem tw_499 : Cond.methodLink RX3 (83 : Nat) yX3_readNamed ∈ gT := gT_t (List.mem_of_getElem? (i := 499) (by decide +kernel)) (by decide +kernel)
theorem tw_501 : Cond.instanceMethod yX3_readNamed ∈ gT := gT_t (List.mem_of_getElem? (i := 501) (by decide +kernel)) (by decide +kernel)
theorem tw_502 : Cond.code yX3_readNamed cX3_readNamed 5 none ∈ gT := gT_t (List.mem_of_getElem? (i := 502) (by decide +kernel)) (by decide +kernel)
theorem tw_503 : Cond.methodLink RX3 (99 : Nat) yX3_tellName ∈ gT := gT_t (List.mem_of_getElem? (i := 503) (by decide +kernel)) (by decide +kernel)
theorem tw_505 : Cond.instanceMethod yX3_tellName ∈ gT := gT_t (List.mem_of_getElem? (i := 505) (by decide +kernel)) (by decide +kernel)
theorem tw_506 : Cond.code yX3_tellName cX3_tellName 4 (some .int) ∈ gT := gT_t (List.mem_of_getElem? (i := 506) (by decide +kernel)) (by decide +kernel)
theorem tw_507 : Cond.methodLink RX3 (122 : Nat) yX3_isTold ∈ gT := gT_t (List.mem_of_getElem? (i := 507) (by decide +kernel)) (by decide +kernel)
theorem tw_509 : Cond.instanceMethod yX3_isTold ∈ gT := gT_t (List.mem_of_getElem? (i := 509) (by decide +kernel)) (by decide +kernel)
theorem tw_510 : Cond.code yX3_isTold cX3_isTold 4 (some .boolean) ∈ gT := gT_t (List.mem_of_getElem? (i := 510) (by decide +kernel)) (by decide +kernel)
theorem tw_512 : Cond.methodLink RX3 (110 : Nat) yJ9_max_7cf53 ∈ gT := gT_t (List.mem_of_getElem? (i := 512) (by decide +kernel)) (by decide +kernel)
theorem tw_513 : Cond.methodLink RX3 (87 : Nat) yX7_passOnly ∈ gT := gT_t (List.mem_of_getElem? (i := 513) (by decide +kernel)) (by decide +kernel)
theorem tw_517 : Cond.methodLink RX9 (107 : Nat) yX9_noteFault ∈ gT := gT_t (List.mem_of_getElem? (i := 517) (by decide +kernel)) (by decide +kernel)
theorem tw_519 : Cond.instanceMethod yX9_noteFault ∈ gT := gT_t (List.mem_of_getElem? (i := 519) (by decide +kernel)) (by decide +kernel)
theorem tw_520 : Cond.code yX9_noteFault cX9_noteFault 1 none ∈ gT := gT_t (List.mem_of_getElem? (i := 520) (by decide +kernel)) (by decide +kernel)
theorem tw_768 : Cond.methodLink RX9 (381 : Nat) yJ9_abs_0f7a4 ∈ gT := gT_t (List.mem_of_getElem? (i := 768) (by decide +kernel)) (by decide +kernel)
theorem tw_769 : Cond.static yJ9_abs_0f7a4 ∈ gT := gT_t (List.mem_of_getElem? (i := 769) (by decide +kernel)) (by decide +kernel)
theorem tw_770 : Cond.code yJ9_abs_0f7a4 cJ9_abs_0f7a4 1 (some .int) ∈ gT := gT_t (List.mem_of_getElem? (i := 770) (by decide +kernel)) (by decide +kernel)
theorem tw_886 : Cond.methodLink RX9 (331 : Nat) yX0_read ∈ gT := gT_t (List.mem_of_getElem? (i := 886) (by decide +kernel)) (by decide +kernel)
theorem tw_887 : Cond.instanceMethod yX0_read ∈ gT := gT_t (List.mem_of_getElem? (i := 887) (by decide +kernel)) (by decide +kernel)
theorem tw_888 : Cond.selects RX0 yX0_read yX0_read ∈ gT := gT_t (List.mem_of_getElem? (i := 888) (by decide +kernel)) (by decide +kernel)
theorem tw_889 : Cond.code yX0_read cX0_read 6 none ∈ gT := gT_t (List.mem_of_getElem? (i := 889) (by decide +kernel)) (by decide +kernel)
theorem tw_890 : Cond.methodLink RX0 (28 : Nat) yX7_startText ∈ gT := gT_t (List.mem_of_getElem? (i := 890) (by decide +kernel)) (by decide +kernel)
theorem tw_891 : Cond.methodLink RX0 (34 : Nat) yX7_goesOn ∈ gT := gT_t (List.mem_of_getElem? (i := 891) (by decide +kernel)) (by decide +kernel)
theorem tw_892 : Cond.methodLink RX0 (41 : Nat) yX7_nameAhead ∈ gT := gT_t (List.mem_of_getElem? (i := 892) (by decide +kernel)) (by decide +kernel)
theorem tw_893 : Cond.methodLink RX0 (45 : Nat) yX0_beginsLine ∈ gT := gT_t (List.mem_of_getElem? (i := 893) (by decide +kernel)) (by decide +kernel)
theorem tw_895 : Cond.instanceMethod yX0_beginsLine ∈ gT := gT_t (List.mem_of_getElem? (i := 895) (by decide +kernel)) (by decide +kernel)
theorem tw_896 : Cond.code yX0_beginsLine cX0_beginsLine 3 (some .boolean) ∈ gT := gT_t (List.mem_of_getElem? (i := 896) (by decide +kernel)) (by decide +kernel)
theorem tw_899 : Cond.methodLink RX0 (49 : Nat) yX0_readVerb ∈ gT := gT_t (List.mem_of_getElem? (i := 899) (by decide +kernel)) (by decide +kernel)
theorem tw_901 : Cond.instanceMethod yX0_readVerb ∈ gT := gT_t (List.mem_of_getElem? (i := 901) (by decide +kernel)) (by decide +kernel)
theorem tw_902 : Cond.code yX0_readVerb cX0_readVerb 5 none ∈ gT := gT_t (List.mem_of_getElem? (i := 902) (by decide +kernel)) (by decide +kernel)
theorem tw_903 : Cond.methodLink RX0 (68 : Nat) yX7_takeName ∈ gT := gT_t (List.mem_of_getElem? (i := 903) (by decide +kernel)) (by decide +kernel)
theorem tw_904 : Cond.methodLink RX0 (71 : Nat) yX0_addLine ∈ gT := gT_t (List.mem_of_getElem? (i := 904) (by decide +kernel)) (by decide +kernel)
theorem tw_906 : Cond.instanceMethod yX0_addLine ∈ gT := gT_t (List.mem_of_getElem? (i := 906) (by decide +kernel)) (by decide +kernel)
theorem tw_907 : Cond.code yX0_addLine cX0_addLine 4 none ∈ gT := gT_t (List.mem_of_getElem? (i := 907) (by decide +kernel)) (by decide +kernel)
theorem tw_908 : Cond.methodLink RX0 (53 : Nat) yX0_readOther ∈ gT := gT_t (List.mem_of_getElem? (i := 908) (by decide +kernel)) (by decide +kernel)
theorem tw_910 : Cond.instanceMethod yX0_readOther ∈ gT := gT_t (List.mem_of_getElem? (i := 910) (by decide +kernel)) (by decide +kernel)
theorem tw_911 : Cond.code yX0_readOther cX0_readOther 5 none ∈ gT := gT_t (List.mem_of_getElem? (i := 911) (by decide +kernel)) (by decide +kernel)
theorem tw_912 : Cond.methodLink RX0 (75 : Nat) yX7_takeNumber ∈ gT := gT_t (List.mem_of_getElem? (i := 912) (by decide +kernel)) (by decide +kernel)
theorem tw_913 : Cond.methodLink RX0 (56 : Nat) yX7_passOnly ∈ gT := gT_t (List.mem_of_getElem? (i := 913) (by decide +kernel)) (by decide +kernel)
theorem tw_914 : Cond.methodLink RX9 (334 : Nat) yX0_liveIn ∈ gT := gT_t (List.mem_of_getElem? (i := 914) (by decide +kernel)) (by decide +kernel)
theorem tw_915 : Cond.instanceMethod yX0_liveIn ∈ gT := gT_t (List.mem_of_getElem? (i := 915) (by decide +kernel)) (by decide +kernel)
theorem tw_916 : Cond.selects RX0 yX0_liveIn yX0_liveIn ∈ gT := gT_t (List.mem_of_getElem? (i := 916) (by decide +kernel)) (by decide +kernel)
theorem tw_917 : Cond.code yX0_liveIn cX0_liveIn 4 (some .int) ∈ gT := gT_t (List.mem_of_getElem? (i := 917) (by decide +kernel)) (by decide +kernel)
theorem tw_918 : Cond.methodLink RX0 (79 : Nat) yX0_liveLine ∈ gT := gT_t (List.mem_of_getElem? (i := 918) (by decide +kernel)) (by decide +kernel)
theorem tw_920 : Cond.instanceMethod yX0_liveLine ∈ gT := gT_t (List.mem_of_getElem? (i := 920) (by decide +kernel)) (by decide +kernel)
theorem tw_921 : Cond.code yX0_liveLine cX0_liveLine 5 (some .int) ∈ gT := gT_t (List.mem_of_getElem? (i := 921) (by decide +kernel)) (by decide +kernel)
theorem tw_922 : Cond.methodLink RX0 (83 : Nat) yX8_daysLeft ∈ gT := gT_t (List.mem_of_getElem? (i := 922) (by decide +kernel)) (by decide +kernel)
theorem tw_923 : Cond.methodLink RX0 (89 : Nat) yX8_sitDown ∈ gT := gT_t (List.mem_of_getElem? (i := 923) (by decide +kernel)) (by decide +kernel)
theorem tw_924 : Cond.methodLink RX0 (92 : Nat) yX0_because ∈ gT := gT_t (List.mem_of_getElem? (i := 924) (by decide +kernel)) (by decide +kernel)
theorem tw_925 : Cond.static yX0_because ∈ gT := gT_t (List.mem_of_getElem? (i := 925) (by decide +kernel)) (by decide +kernel)
theorem tw_926 : Cond.code yX0_because cX0_because 2 (some .int) ∈ gT := gT_t (List.mem_of_getElem? (i := 926) (by decide +kernel)) (by decide +kernel)
theorem tw_927 : Cond.methodLink RX0 (95 : Nat) yX8_standUp ∈ gT := gT_t (List.mem_of_getElem? (i := 927) (by decide +kernel)) (by decide +kernel)
theorem tw_928 : Cond.methodLink RX0 (99 : Nat) yX8_wishFor ∈ gT := gT_t (List.mem_of_getElem? (i := 928) (by decide +kernel)) (by decide +kernel)
theorem tw_929 : Cond.methodLink RX0 (102 : Nat) yX0_guessIn ∈ gT := gT_t (List.mem_of_getElem? (i := 929) (by decide +kernel)) (by decide +kernel)
theorem tw_930 : Cond.static yX0_guessIn ∈ gT := gT_t (List.mem_of_getElem? (i := 930) (by decide +kernel)) (by decide +kernel)
theorem tw_931 : Cond.code yX0_guessIn cX0_guessIn 4 (some .int) ∈ gT := gT_t (List.mem_of_getElem? (i := 931) (by decide +kernel)) (by decide +kernel)
theorem tw_934 : Cond.methodLink RX0 (106 : Nat) yX8_openUp ∈ gT := gT_t (List.mem_of_getElem? (i := 934) (by decide +kernel)) (by decide +kernel)
theorem tw_935 : Cond.methodLink RX0 (109 : Nat) yX8_carryTo ∈ gT := gT_t (List.mem_of_getElem? (i := 935) (by decide +kernel)) (by decide +kernel)
theorem tw_936 : Cond.methodLink RX0 (112 : Nat) yX8_goDays ∈ gT := gT_t (List.mem_of_getElem? (i := 936) (by decide +kernel)) (by decide +kernel)
theorem tn_95 : Cond.fieldLinkNest RX0 (38 : Nat) "WonderParcels$Tape" "kind" "I" "WonderParcels" ∈ nW := nW_t (List.mem_of_getElem? (i := 95) (by decide +kernel)) (by decide +kernel)
theorem tn_97 : Cond.fieldLinkNest RX3 (61 : Nat) "WonderParcels$Tape" "kind" "I" "WonderParcels" ∈ nW := nW_t (List.mem_of_getElem? (i := 97) (by decide +kernel)) (by decide +kernel)
theorem tn_99 : Cond.fieldLinkNest RX3 (118 : Nat) "WonderParcels$Tape" "name" "J" "WonderParcels" ∈ nW := nW_t (List.mem_of_getElem? (i := 99) (by decide +kernel)) (by decide +kernel)
theorem tn_107 : Cond.fieldLinkNest RX9 (110 : Nat) "WonderParcels$Tape" "place" "I" "WonderParcels" ∈ nW := nW_t (List.mem_of_getElem? (i := 107) (by decide +kernel)) (by decide +kernel)
theorem tn_147 : Cond.fieldLinkNest RX9 (337 : Nat) "WonderParcels$Book" "lived" "I" "WonderParcels" ∈ nW := nW_t (List.mem_of_getElem? (i := 147) (by decide +kernel)) (by decide +kernel)
theorem tn_254 : Cond.fieldLinkNest RX3 (103 : Nat) "WonderParcels$World" "room" "[I" "WonderParcels" ∈ nW := nW_t (List.mem_of_getElem? (i := 254) (by decide +kernel)) (by decide +kernel)
theorem tn_266 : Cond.fieldLinkNest RX3 (115 : Nat) "WonderParcels$World" "wish" "[I" "WonderParcels" ∈ nW := nW_t (List.mem_of_getElem? (i := 266) (by decide +kernel)) (by decide +kernel)
theorem ts_1 : Cond.selects RX3 yX3_beginsLine yX3_beginsLine ∈ gT := gT_s (by decide +kernel) (by decide +kernel)
theorem ts_2 : Cond.selects RX3 yX3_readSits yX3_readSits ∈ gT := gT_s (by decide +kernel) (by decide +kernel)
theorem ts_3 : Cond.selects RX3 yX3_readHas yX3_readHas ∈ gT := gT_s (by decide +kernel) (by decide +kernel)
theorem ts_4 : Cond.selects RX3 yX3_readQuarrel yX3_readQuarrel ∈ gT := gT_s (by decide +kernel) (by decide +kernel)
theorem ts_6 : Cond.selects RX3 yX3_readNamed yX3_readNamed ∈ gT := gT_s (by decide +kernel) (by decide +kernel)
theorem ts_7 : Cond.selects RX3 yX3_tellName yX3_tellName ∈ gT := gT_s (by decide +kernel) (by decide +kernel)
theorem ts_8 : Cond.selects RX3 yX3_isTold yX3_isTold ∈ gT := gT_s (by decide +kernel) (by decide +kernel)
theorem ts_9 : Cond.selects RX9 yX9_noteFault yX9_noteFault ∈ gT := gT_s (by decide +kernel) (by decide +kernel)
theorem ts_26 : Cond.selects RX0 yX0_beginsLine yX0_beginsLine ∈ gT := gT_s (by decide +kernel) (by decide +kernel)
theorem ts_27 : Cond.selects RX0 yX0_readVerb yX0_readVerb ∈ gT := gT_s (by decide +kernel) (by decide +kernel)
theorem ts_28 : Cond.selects RX0 yX0_addLine yX0_addLine ∈ gT := gT_s (by decide +kernel) (by decide +kernel)
theorem ts_29 : Cond.selects RX0 yX0_readOther yX0_readOther ∈ gT := gT_s (by decide +kernel) (by decide +kernel)
theorem ts_30 : Cond.selects RX0 yX0_liveLine yX0_liveLine ∈ gT := gT_s (by decide +kernel) (by decide +kernel)
theorem dX0_because_0 : decode cX0_because 0 = .ok (.iload_n 1, 1) := by decide +kernel
theorem dX0_because_1 : decode cX0_because 1 = .ok (.ifCond .ne 7, 3) := by decide +kernel
theorem dX0_because_4 : decode cX0_because 4 = .ok (.iconst 0, 1) := by decide +kernel
theorem dX0_because_5 : decode cX0_because 5 = .ok (.goto 6, 3) := by decide +kernel
theorem dX0_because_8 : decode cX0_because 8 = .ok (.iload_n 0, 1) := by decide +kernel
theorem dX0_because_9 : decode cX0_because 9 = .ok (.iload_n 1, 1) := by decide +kernel
theorem dX0_because_10 : decode cX0_because 10 = .ok (.iadd, 1) := by decide +kernel
theorem dX0_because_11 : decode cX0_because 11 = .ok (.ireturn, 1) := by decide +kernel
theorem dX0_liveIn_0 : decode cX0_liveIn 0 = .ok (.aload_n 0, 1) := by decide +kernel
theorem dX0_liveIn_1 : decode cX0_liveIn 1 = .ok (.iconst 0, 1) := by decide +kernel
theorem dX0_liveIn_2 : decode cX0_liveIn 2 = .ok (.putfield 25, 3) := by decide +kernel
theorem dX0_liveIn_5 : decode cX0_liveIn 5 = .ok (.iconst 0, 1) := by decide +kernel
theorem dX0_liveIn_6 : decode cX0_liveIn 6 = .ok (.istore_n 2, 1) := by decide +kernel
theorem dX0_liveIn_7 : decode cX0_liveIn 7 = .ok (.iload_n 2, 1) := by decide +kernel
theorem dX0_liveIn_8 : decode cX0_liveIn 8 = .ok (.aload_n 0, 1) := by decide +kernel
theorem dX0_liveIn_9 : decode cX0_liveIn 9 = .ok (.getfield 21, 3) := by decide +kernel
theorem dX0_liveIn_12 : decode cX0_liveIn 12 = .ok (.if_icmp .ge 32, 3) := by decide +kernel
theorem dX0_liveIn_15 : decode cX0_liveIn 15 = .ok (.aload_n 0, 1) := by decide +kernel
theorem dX0_liveIn_16 : decode cX0_liveIn 16 = .ok (.aload_n 1, 1) := by decide +kernel
theorem dX0_liveIn_17 : decode cX0_liveIn 17 = .ok (.iload_n 2, 1) := by decide +kernel
theorem dX0_liveIn_18 : decode cX0_liveIn 18 = .ok (.invokevirtual 79, 3) := by decide +kernel
theorem dX0_liveIn_21 : decode cX0_liveIn 21 = .ok (.istore_n 3, 1) := by decide +kernel
theorem dX0_liveIn_22 : decode cX0_liveIn 22 = .ok (.iload_n 3, 1) := by decide +kernel
theorem dX0_liveIn_23 : decode cX0_liveIn 23 = .ok (.ifCond .eq 5, 3) := by decide +kernel
theorem dX0_liveIn_26 : decode cX0_liveIn 26 = .ok (.iload_n 3, 1) := by decide +kernel
theorem dX0_liveIn_27 : decode cX0_liveIn 27 = .ok (.ireturn, 1) := by decide +kernel
theorem dX0_liveIn_28 : decode cX0_liveIn 28 = .ok (.aload_n 0, 1) := by decide +kernel
theorem dX0_liveIn_29 : decode cX0_liveIn 29 = .ok (.dup, 1) := by decide +kernel
theorem dX0_liveIn_30 : decode cX0_liveIn 30 = .ok (.getfield 25, 3) := by decide +kernel
theorem dX0_liveIn_33 : decode cX0_liveIn 33 = .ok (.iconst 1, 1) := by decide +kernel
theorem dX0_liveIn_34 : decode cX0_liveIn 34 = .ok (.iadd, 1) := by decide +kernel
theorem dX0_liveIn_35 : decode cX0_liveIn 35 = .ok (.putfield 25, 3) := by decide +kernel
theorem dX0_liveIn_38 : decode cX0_liveIn 38 = .ok (.iinc 2 1, 3) := by decide +kernel
theorem dX0_liveIn_41 : decode cX0_liveIn 41 = .ok (.goto (-34), 3) := by decide +kernel
theorem dX0_liveIn_44 : decode cX0_liveIn 44 = .ok (.iconst 0, 1) := by decide +kernel
theorem dX0_liveIn_45 : decode cX0_liveIn 45 = .ok (.ireturn, 1) := by decide +kernel
theorem dX0_liveLine_0 : decode cX0_liveLine 0 = .ok (.aload_n 0, 1) := by decide +kernel
theorem dX0_liveLine_1 : decode cX0_liveLine 1 = .ok (.getfield 15, 3) := by decide +kernel
theorem dX0_liveLine_4 : decode cX0_liveLine 4 = .ok (.iload_n 2, 1) := by decide +kernel
theorem dX0_liveLine_5 : decode cX0_liveLine 5 = .ok (.iaload, 1) := by decide +kernel
theorem dX0_liveLine_6 : decode cX0_liveLine 6 = .ok (.istore_n 3, 1) := by decide +kernel
theorem dX0_liveLine_7 : decode cX0_liveLine 7 = .ok (.aload_n 0, 1) := by decide +kernel
theorem dX0_liveLine_8 : decode cX0_liveLine 8 = .ok (.getfield 18, 3) := by decide +kernel
theorem dX0_liveLine_11 : decode cX0_liveLine 11 = .ok (.iload_n 2, 1) := by decide +kernel
theorem dX0_liveLine_12 : decode cX0_liveLine 12 = .ok (.iaload, 1) := by decide +kernel
theorem dX0_liveLine_13 : decode cX0_liveLine 13 = .ok (.istore 4, 2) := by decide +kernel
theorem dX0_liveLine_15 : decode cX0_liveLine 15 = .ok (.aload_n 0, 1) := by decide +kernel
theorem dX0_liveLine_16 : decode cX0_liveLine 16 = .ok (.getfield 11, 3) := by decide +kernel
theorem dX0_liveLine_19 : decode cX0_liveLine 19 = .ok (.iload_n 2, 1) := by decide +kernel
theorem dX0_liveLine_20 : decode cX0_liveLine 20 = .ok (.iaload, 1) := by decide +kernel
theorem dX0_liveLine_21 : decode cX0_liveLine 21 = .ok (.sipush 143, 3) := by decide +kernel
theorem dX0_liveLine_24 : decode cX0_liveLine 24 = .ok (.if_icmp .ne 14, 3) := by decide +kernel
theorem dX0_liveLine_27 : decode cX0_liveLine 27 = .ok (.iload_n 3, 1) := by decide +kernel
theorem dX0_liveLine_28 : decode cX0_liveLine 28 = .ok (.aload_n 1, 1) := by decide +kernel
theorem dX0_liveLine_29 : decode cX0_liveLine 29 = .ok (.invokevirtual 83, 3) := by decide +kernel
theorem dX0_liveLine_32 : decode cX0_liveLine 32 = .ok (.if_icmp .le 6, 3) := by decide +kernel
theorem dX0_liveLine_35 : decode cX0_liveLine 35 = .ok (.bipush 61, 2) := by decide +kernel
theorem dX0_liveLine_37 : decode cX0_liveLine 37 = .ok (.ireturn, 1) := by decide +kernel
theorem dX0_liveLine_38 : decode cX0_liveLine 38 = .ok (.aload_n 0, 1) := by decide +kernel
theorem dX0_liveLine_39 : decode cX0_liveLine 39 = .ok (.getfield 11, 3) := by decide +kernel
theorem dX0_liveLine_42 : decode cX0_liveLine 42 = .ok (.iload_n 2, 1) := by decide +kernel
theorem dX0_liveLine_43 : decode cX0_liveLine 43 = .ok (.iaload, 1) := by decide +kernel
theorem dX0_liveLine_44 : decode cX0_liveLine 44 = .ok (.tableswitch 113 137 142 #[40, 52, 63, 76, 89, 100], 40) := by decide +kernel
theorem dX0_liveLine_84 : decode cX0_liveLine 84 = .ok (.iconst 0, 1) := by decide +kernel
theorem dX0_liveLine_85 : decode cX0_liveLine 85 = .ok (.aload_n 1, 1) := by decide +kernel
theorem dX0_liveLine_86 : decode cX0_liveLine 86 = .ok (.iload_n 3, 1) := by decide +kernel
theorem dX0_liveLine_87 : decode cX0_liveLine 87 = .ok (.iload 4, 2) := by decide +kernel
theorem dX0_liveLine_89 : decode cX0_liveLine 89 = .ok (.invokevirtual 89, 3) := by decide +kernel
theorem dX0_liveLine_92 : decode cX0_liveLine 92 = .ok (.invokestatic 92, 3) := by decide +kernel
theorem dX0_liveLine_95 : decode cX0_liveLine 95 = .ok (.ireturn, 1) := by decide +kernel
theorem dX0_liveLine_96 : decode cX0_liveLine 96 = .ok (.bipush 10, 2) := by decide +kernel
theorem dX0_liveLine_98 : decode cX0_liveLine 98 = .ok (.aload_n 1, 1) := by decide +kernel
theorem dX0_liveLine_99 : decode cX0_liveLine 99 = .ok (.iload_n 3, 1) := by decide +kernel
theorem dX0_liveLine_100 : decode cX0_liveLine 100 = .ok (.invokevirtual 95, 3) := by decide +kernel
theorem dX0_liveLine_103 : decode cX0_liveLine 103 = .ok (.invokestatic 92, 3) := by decide +kernel
theorem dX0_liveLine_106 : decode cX0_liveLine 106 = .ok (.ireturn, 1) := by decide +kernel
theorem dX0_liveLine_107 : decode cX0_liveLine 107 = .ok (.bipush 20, 2) := by decide +kernel
theorem dX0_liveLine_109 : decode cX0_liveLine 109 = .ok (.aload_n 1, 1) := by decide +kernel
theorem dX0_liveLine_110 : decode cX0_liveLine 110 = .ok (.iload_n 3, 1) := by decide +kernel
theorem dX0_liveLine_111 : decode cX0_liveLine 111 = .ok (.iload 4, 2) := by decide +kernel
theorem dX0_liveLine_113 : decode cX0_liveLine 113 = .ok (.invokevirtual 99, 3) := by decide +kernel
theorem dX0_liveLine_116 : decode cX0_liveLine 116 = .ok (.invokestatic 92, 3) := by decide +kernel
theorem dX0_liveLine_119 : decode cX0_liveLine 119 = .ok (.ireturn, 1) := by decide +kernel
theorem dX0_liveLine_120 : decode cX0_liveLine 120 = .ok (.bipush 30, 2) := by decide +kernel
theorem dX0_liveLine_122 : decode cX0_liveLine 122 = .ok (.aload_n 1, 1) := by decide +kernel
theorem dX0_liveLine_123 : decode cX0_liveLine 123 = .ok (.iload_n 3, 1) := by decide +kernel
theorem dX0_liveLine_124 : decode cX0_liveLine 124 = .ok (.iload 4, 2) := by decide +kernel
theorem dX0_liveLine_126 : decode cX0_liveLine 126 = .ok (.invokestatic 102, 3) := by decide +kernel
theorem dX0_liveLine_129 : decode cX0_liveLine 129 = .ok (.invokestatic 92, 3) := by decide +kernel
theorem dX0_liveLine_132 : decode cX0_liveLine 132 = .ok (.ireturn, 1) := by decide +kernel
theorem dX0_liveLine_133 : decode cX0_liveLine 133 = .ok (.bipush 40, 2) := by decide +kernel
theorem dX0_liveLine_135 : decode cX0_liveLine 135 = .ok (.aload_n 1, 1) := by decide +kernel
theorem dX0_liveLine_136 : decode cX0_liveLine 136 = .ok (.iload_n 3, 1) := by decide +kernel
theorem dX0_liveLine_137 : decode cX0_liveLine 137 = .ok (.invokevirtual 106, 3) := by decide +kernel
theorem dX0_liveLine_140 : decode cX0_liveLine 140 = .ok (.invokestatic 92, 3) := by decide +kernel
theorem dX0_liveLine_143 : decode cX0_liveLine 143 = .ok (.ireturn, 1) := by decide +kernel
theorem dX0_liveLine_144 : decode cX0_liveLine 144 = .ok (.bipush 50, 2) := by decide +kernel
theorem dX0_liveLine_146 : decode cX0_liveLine 146 = .ok (.aload_n 1, 1) := by decide +kernel
theorem dX0_liveLine_147 : decode cX0_liveLine 147 = .ok (.iload_n 3, 1) := by decide +kernel
theorem dX0_liveLine_148 : decode cX0_liveLine 148 = .ok (.iload 4, 2) := by decide +kernel
theorem dX0_liveLine_150 : decode cX0_liveLine 150 = .ok (.invokevirtual 109, 3) := by decide +kernel
theorem dX0_liveLine_153 : decode cX0_liveLine 153 = .ok (.invokestatic 92, 3) := by decide +kernel
theorem dX0_liveLine_156 : decode cX0_liveLine 156 = .ok (.ireturn, 1) := by decide +kernel
theorem dX0_liveLine_157 : decode cX0_liveLine 157 = .ok (.aload_n 1, 1) := by decide +kernel
theorem dX0_liveLine_158 : decode cX0_liveLine 158 = .ok (.iload_n 3, 1) := by decide +kernel
theorem dX0_liveLine_159 : decode cX0_liveLine 159 = .ok (.invokevirtual 112, 3) := by decide +kernel
theorem dX0_liveLine_162 : decode cX0_liveLine 162 = .ok (.pop, 1) := by decide +kernel
theorem dX0_liveLine_163 : decode cX0_liveLine 163 = .ok (.iconst 0, 1) := by decide +kernel
theorem dX0_liveLine_164 : decode cX0_liveLine 164 = .ok (.ireturn, 1) := by decide +kernel
theorem dX0_read_0 : decode cX0_read 0 = .ok (.aload_n 1, 1) := by decide +kernel
theorem dX0_read_1 : decode cX0_read 1 = .ok (.sipush 400, 3) := by decide +kernel
theorem dX0_read_4 : decode cX0_read 4 = .ok (.invokevirtual 28, 3) := by decide +kernel
theorem dX0_read_7 : decode cX0_read 7 = .ok (.aload_n 0, 1) := by decide +kernel
theorem dX0_read_8 : decode cX0_read 8 = .ok (.iconst 0, 1) := by decide +kernel
theorem dX0_read_9 : decode cX0_read 9 = .ok (.putfield 21, 3) := by decide +kernel
theorem dX0_read_12 : decode cX0_read 12 = .ok (.iconst 0, 1) := by decide +kernel
theorem dX0_read_13 : decode cX0_read 13 = .ok (.istore_n 3, 1) := by decide +kernel
theorem dX0_read_14 : decode cX0_read 14 = .ok (.iload_n 3, 1) := by decide +kernel
theorem dX0_read_15 : decode cX0_read 15 = .ok (.bipush 40, 2) := by decide +kernel
theorem dX0_read_17 : decode cX0_read 17 = .ok (.if_icmp .gt 82, 3) := by decide +kernel
theorem dX0_read_20 : decode cX0_read 20 = .ok (.aload_n 1, 1) := by decide +kernel
theorem dX0_read_21 : decode cX0_read 21 = .ok (.invokevirtual 34, 3) := by decide +kernel
theorem dX0_read_24 : decode cX0_read 24 = .ok (.ifCond .eq 75, 3) := by decide +kernel
theorem dX0_read_27 : decode cX0_read 27 = .ok (.aload_n 1, 1) := by decide +kernel
theorem dX0_read_28 : decode cX0_read 28 = .ok (.getfield 38, 3) := by decide +kernel
theorem dX0_read_31 : decode cX0_read 31 = .ok (.istore 4, 2) := by decide +kernel
theorem dX0_read_33 : decode cX0_read 33 = .ok (.iload 4, 2) := by decide +kernel
theorem dX0_read_35 : decode cX0_read 35 = .ok (.iconst 2, 1) := by decide +kernel
theorem dX0_read_36 : decode cX0_read 36 = .ok (.if_icmp .ne 12, 3) := by decide +kernel
theorem dX0_read_39 : decode cX0_read 39 = .ok (.aload_n 1, 1) := by decide +kernel
theorem dX0_read_40 : decode cX0_read 40 = .ok (.aload_n 2, 1) := by decide +kernel
theorem dX0_read_41 : decode cX0_read 41 = .ok (.iconst 3, 1) := by decide +kernel
theorem dX0_read_42 : decode cX0_read 42 = .ok (.invokevirtual 41, 3) := by decide +kernel
theorem dX0_read_45 : decode cX0_read 45 = .ok (.goto 4, 3) := by decide +kernel
theorem dX0_read_48 : decode cX0_read 48 = .ok (.iconst (-1), 1) := by decide +kernel
theorem dX0_read_49 : decode cX0_read 49 = .ok (.istore 5, 2) := by decide +kernel
theorem dX0_read_51 : decode cX0_read 51 = .ok (.aload_n 0, 1) := by decide +kernel
theorem dX0_read_52 : decode cX0_read 52 = .ok (.aload_n 1, 1) := by decide +kernel
theorem dX0_read_53 : decode cX0_read 53 = .ok (.iload 4, 2) := by decide +kernel
theorem dX0_read_55 : decode cX0_read 55 = .ok (.invokevirtual 45, 3) := by decide +kernel
theorem dX0_read_58 : decode cX0_read 58 = .ok (.ifCond .ne 4, 3) := by decide +kernel
theorem dX0_read_61 : decode cX0_read 61 = .ok (.return_, 1) := by decide +kernel
theorem dX0_read_62 : decode cX0_read 62 = .ok (.iload 5, 2) := by decide +kernel
theorem dX0_read_64 : decode cX0_read 64 = .ok (.iconst (-1), 1) := by decide +kernel
theorem dX0_read_65 : decode cX0_read 65 = .ok (.if_icmp .eq 14, 3) := by decide +kernel
theorem dX0_read_68 : decode cX0_read 68 = .ok (.aload_n 0, 1) := by decide +kernel
theorem dX0_read_69 : decode cX0_read 69 = .ok (.aload_n 1, 1) := by decide +kernel
theorem dX0_read_70 : decode cX0_read 70 = .ok (.aload_n 2, 1) := by decide +kernel
theorem dX0_read_71 : decode cX0_read 71 = .ok (.iload 5, 2) := by decide +kernel
theorem dX0_read_73 : decode cX0_read 73 = .ok (.invokevirtual 49, 3) := by decide +kernel
theorem dX0_read_76 : decode cX0_read 76 = .ok (.goto 11, 3) := by decide +kernel
theorem dX0_read_79 : decode cX0_read 79 = .ok (.aload_n 0, 1) := by decide +kernel
theorem dX0_read_80 : decode cX0_read 80 = .ok (.aload_n 1, 1) := by decide +kernel
theorem dX0_read_81 : decode cX0_read 81 = .ok (.aload_n 2, 1) := by decide +kernel
theorem dX0_read_82 : decode cX0_read 82 = .ok (.iload 4, 2) := by decide +kernel
theorem dX0_read_84 : decode cX0_read 84 = .ok (.invokevirtual 53, 3) := by decide +kernel
theorem dX0_read_87 : decode cX0_read 87 = .ok (.aload_n 1, 1) := by decide +kernel
theorem dX0_read_88 : decode cX0_read 88 = .ok (.bipush 59, 2) := by decide +kernel
theorem dX0_read_90 : decode cX0_read 90 = .ok (.invokevirtual 56, 3) := by decide +kernel
theorem dX0_read_93 : decode cX0_read 93 = .ok (.iinc 3 1, 3) := by decide +kernel
theorem dX0_read_96 : decode cX0_read 96 = .ok (.goto (-82), 3) := by decide +kernel
theorem dX0_read_99 : decode cX0_read 99 = .ok (.return_, 1) := by decide +kernel
theorem dX0_readOther_0 : decode cX0_readOther 0 = .ok (.iload_n 3, 1) := by decide +kernel
theorem dX0_readOther_1 : decode cX0_readOther 1 = .ok (.sipush 143, 3) := by decide +kernel
theorem dX0_readOther_4 : decode cX0_readOther 4 = .ok (.if_icmp .ne 17, 3) := by decide +kernel
theorem dX0_readOther_7 : decode cX0_readOther 7 = .ok (.aload_n 0, 1) := by decide +kernel
theorem dX0_readOther_8 : decode cX0_readOther 8 = .ok (.iload_n 3, 1) := by decide +kernel
theorem dX0_readOther_9 : decode cX0_readOther 9 = .ok (.aload_n 1, 1) := by decide +kernel
theorem dX0_readOther_10 : decode cX0_readOther 10 = .ok (.iconst 1, 1) := by decide +kernel
theorem dX0_readOther_11 : decode cX0_readOther 11 = .ok (.bipush 60, 2) := by decide +kernel
theorem dX0_readOther_13 : decode cX0_readOther 13 = .ok (.invokevirtual 75, 3) := by decide +kernel
theorem dX0_readOther_16 : decode cX0_readOther 16 = .ok (.iconst (-1), 1) := by decide +kernel
theorem dX0_readOther_17 : decode cX0_readOther 17 = .ok (.invokevirtual 71, 3) := by decide +kernel
theorem dX0_readOther_20 : decode cX0_readOther 20 = .ok (.return_, 1) := by decide +kernel
theorem dX0_readOther_21 : decode cX0_readOther 21 = .ok (.aload_n 1, 1) := by decide +kernel
theorem dX0_readOther_22 : decode cX0_readOther 22 = .ok (.aload_n 2, 1) := by decide +kernel
theorem dX0_readOther_23 : decode cX0_readOther 23 = .ok (.iconst 2, 1) := by decide +kernel
theorem dX0_readOther_24 : decode cX0_readOther 24 = .ok (.invokevirtual 68, 3) := by decide +kernel
theorem dX0_readOther_27 : decode cX0_readOther 27 = .ok (.istore 4, 2) := by decide +kernel
theorem dX0_readOther_29 : decode cX0_readOther 29 = .ok (.aload_n 0, 1) := by decide +kernel
theorem dX0_readOther_30 : decode cX0_readOther 30 = .ok (.iload_n 3, 1) := by decide +kernel
theorem dX0_readOther_31 : decode cX0_readOther 31 = .ok (.iload 4, 2) := by decide +kernel
theorem dX0_readOther_33 : decode cX0_readOther 33 = .ok (.iload_n 3, 1) := by decide +kernel
theorem dX0_readOther_34 : decode cX0_readOther 34 = .ok (.sipush 142, 3) := by decide +kernel
theorem dX0_readOther_37 : decode cX0_readOther 37 = .ok (.if_icmp .ne 12, 3) := by decide +kernel
theorem dX0_readOther_40 : decode cX0_readOther 40 = .ok (.aload_n 1, 1) := by decide +kernel
theorem dX0_readOther_41 : decode cX0_readOther 41 = .ok (.aload_n 2, 1) := by decide +kernel
theorem dX0_readOther_42 : decode cX0_readOther 42 = .ok (.iconst 1, 1) := by decide +kernel
theorem dX0_readOther_43 : decode cX0_readOther 43 = .ok (.invokevirtual 68, 3) := by decide +kernel
theorem dX0_readOther_46 : decode cX0_readOther 46 = .ok (.goto 4, 3) := by decide +kernel
theorem dX0_readOther_49 : decode cX0_readOther 49 = .ok (.iconst (-1), 1) := by decide +kernel
theorem dX0_readOther_50 : decode cX0_readOther 50 = .ok (.invokevirtual 71, 3) := by decide +kernel
theorem dX0_readOther_53 : decode cX0_readOther 53 = .ok (.return_, 1) := by decide +kernel
theorem dX0_readVerb_0 : decode cX0_readVerb 0 = .ok (.aload_n 1, 1) := by decide +kernel
theorem dX0_readVerb_1 : decode cX0_readVerb 1 = .ok (.getfield 38, 3) := by decide +kernel
theorem dX0_readVerb_4 : decode cX0_readVerb 4 = .ok (.istore 4, 2) := by decide +kernel
theorem dX0_readVerb_6 : decode cX0_readVerb 6 = .ok (.iload 4, 2) := by decide +kernel
theorem dX0_readVerb_8 : decode cX0_readVerb 8 = .ok (.sipush 137, 3) := by decide +kernel
theorem dX0_readVerb_11 : decode cX0_readVerb 11 = .ok (.if_icmp .lt 11, 3) := by decide +kernel
theorem dX0_readVerb_14 : decode cX0_readVerb 14 = .ok (.iload 4, 2) := by decide +kernel
theorem dX0_readVerb_16 : decode cX0_readVerb 16 = .ok (.sipush 140, 3) := by decide +kernel
theorem dX0_readVerb_19 : decode cX0_readVerb 19 = .ok (.if_icmp .le 8, 3) := by decide +kernel
theorem dX0_readVerb_22 : decode cX0_readVerb 22 = .ok (.aload_n 1, 1) := by decide +kernel
theorem dX0_readVerb_23 : decode cX0_readVerb 23 = .ok (.iconst 1, 1) := by decide +kernel
theorem dX0_readVerb_24 : decode cX0_readVerb 24 = .ok (.invokevirtual 59, 3) := by decide +kernel
theorem dX0_readVerb_27 : decode cX0_readVerb 27 = .ok (.aload_n 1, 1) := by decide +kernel
theorem dX0_readVerb_28 : decode cX0_readVerb 28 = .ok (.invokevirtual 62, 3) := by decide +kernel
theorem dX0_readVerb_31 : decode cX0_readVerb 31 = .ok (.iload 4, 2) := by decide +kernel
theorem dX0_readVerb_33 : decode cX0_readVerb 33 = .ok (.sipush 137, 3) := by decide +kernel
theorem dX0_readVerb_36 : decode cX0_readVerb 36 = .ok (.if_icmp .ne 19, 3) := by decide +kernel
theorem dX0_readVerb_39 : decode cX0_readVerb 39 = .ok (.aload_n 0, 1) := by decide +kernel
theorem dX0_readVerb_40 : decode cX0_readVerb 40 = .ok (.iload 4, 2) := by decide +kernel
theorem dX0_readVerb_42 : decode cX0_readVerb 42 = .ok (.iload_n 3, 1) := by decide +kernel
theorem dX0_readVerb_43 : decode cX0_readVerb 43 = .ok (.aload_n 1, 1) := by decide +kernel
theorem dX0_readVerb_44 : decode cX0_readVerb 44 = .ok (.aload_n 2, 1) := by decide +kernel
theorem dX0_readVerb_45 : decode cX0_readVerb 45 = .ok (.iconst 2, 1) := by decide +kernel
theorem dX0_readVerb_46 : decode cX0_readVerb 46 = .ok (.invokevirtual 68, 3) := by decide +kernel
theorem dX0_readVerb_49 : decode cX0_readVerb 49 = .ok (.invokevirtual 71, 3) := by decide +kernel
theorem dX0_readVerb_52 : decode cX0_readVerb 52 = .ok (.goto 35, 3) := by decide +kernel
theorem dX0_readVerb_55 : decode cX0_readVerb 55 = .ok (.iload 4, 2) := by decide +kernel
theorem dX0_readVerb_57 : decode cX0_readVerb 57 = .ok (.sipush 138, 3) := by decide +kernel
theorem dX0_readVerb_60 : decode cX0_readVerb 60 = .ok (.if_icmp .ne 14, 3) := by decide +kernel
theorem dX0_readVerb_63 : decode cX0_readVerb 63 = .ok (.aload_n 0, 1) := by decide +kernel
theorem dX0_readVerb_64 : decode cX0_readVerb 64 = .ok (.iload 4, 2) := by decide +kernel
theorem dX0_readVerb_66 : decode cX0_readVerb 66 = .ok (.iload_n 3, 1) := by decide +kernel
theorem dX0_readVerb_67 : decode cX0_readVerb 67 = .ok (.iconst (-1), 1) := by decide +kernel
theorem dX0_readVerb_68 : decode cX0_readVerb 68 = .ok (.invokevirtual 71, 3) := by decide +kernel
theorem dX0_readVerb_71 : decode cX0_readVerb 71 = .ok (.goto 16, 3) := by decide +kernel
theorem dX0_readVerb_74 : decode cX0_readVerb 74 = .ok (.aload_n 0, 1) := by decide +kernel
theorem dX0_readVerb_75 : decode cX0_readVerb 75 = .ok (.iload 4, 2) := by decide +kernel
theorem dX0_readVerb_77 : decode cX0_readVerb 77 = .ok (.iload_n 3, 1) := by decide +kernel
theorem dX0_readVerb_78 : decode cX0_readVerb 78 = .ok (.aload_n 1, 1) := by decide +kernel
theorem dX0_readVerb_79 : decode cX0_readVerb 79 = .ok (.aload_n 2, 1) := by decide +kernel
theorem dX0_readVerb_80 : decode cX0_readVerb 80 = .ok (.iconst 0, 1) := by decide +kernel
theorem dX0_readVerb_81 : decode cX0_readVerb 81 = .ok (.invokevirtual 68, 3) := by decide +kernel
theorem dX0_readVerb_84 : decode cX0_readVerb 84 = .ok (.invokevirtual 71, 3) := by decide +kernel
theorem dX0_readVerb_87 : decode cX0_readVerb 87 = .ok (.return_, 1) := by decide +kernel
theorem dX3_read_0 : decode cX3_read 0 = .ok (.aload_n 2, 1) := by decide +kernel
theorem dX3_read_1 : decode cX3_read 1 = .ok (.aload_n 0, 1) := by decide +kernel
theorem dX3_read_2 : decode cX3_read 2 = .ok (.invokevirtual 45, 3) := by decide +kernel
theorem dX3_read_5 : decode cX3_read 5 = .ok (.aload_n 1, 1) := by decide +kernel
theorem dX3_read_6 : decode cX3_read 6 = .ok (.sipush 900, 3) := by decide +kernel
theorem dX3_read_9 : decode cX3_read 9 = .ok (.invokevirtual 51, 3) := by decide +kernel
theorem dX3_read_12 : decode cX3_read 12 = .ok (.iconst 0, 1) := by decide +kernel
theorem dX3_read_13 : decode cX3_read 13 = .ok (.istore_n 3, 1) := by decide +kernel
theorem dX3_read_14 : decode cX3_read 14 = .ok (.iload_n 3, 1) := by decide +kernel
theorem dX3_read_15 : decode cX3_read 15 = .ok (.sipush 900, 3) := by decide +kernel
theorem dX3_read_18 : decode cX3_read 18 = .ok (.if_icmp .ge 153, 3) := by decide +kernel
theorem dX3_read_21 : decode cX3_read 21 = .ok (.aload_n 1, 1) := by decide +kernel
theorem dX3_read_22 : decode cX3_read 22 = .ok (.invokevirtual 57, 3) := by decide +kernel
theorem dX3_read_25 : decode cX3_read 25 = .ok (.ifCond .eq 146, 3) := by decide +kernel
theorem dX3_read_28 : decode cX3_read 28 = .ok (.aload_n 1, 1) := by decide +kernel
theorem dX3_read_29 : decode cX3_read 29 = .ok (.getfield 61, 3) := by decide +kernel
theorem dX3_read_32 : decode cX3_read 32 = .ok (.istore 4, 2) := by decide +kernel
theorem dX3_read_34 : decode cX3_read 34 = .ok (.aload_n 0, 1) := by decide +kernel
theorem dX3_read_35 : decode cX3_read 35 = .ok (.aload_n 1, 1) := by decide +kernel
theorem dX3_read_36 : decode cX3_read 36 = .ok (.iload 4, 2) := by decide +kernel
theorem dX3_read_38 : decode cX3_read 38 = .ok (.invokevirtual 64, 3) := by decide +kernel
theorem dX3_read_41 : decode cX3_read 41 = .ok (.ifCond .ne 5, 3) := by decide +kernel
theorem dX3_read_44 : decode cX3_read 44 = .ok (.iconst (-1), 1) := by decide +kernel
theorem dX3_read_45 : decode cX3_read 45 = .ok (.ireturn, 1) := by decide +kernel
theorem dX3_read_46 : decode cX3_read 46 = .ok (.iload 4, 2) := by decide +kernel
theorem dX3_read_48 : decode cX3_read 48 = .ok (.tableswitch 99 132 136 #[36, 45, 54, 62, 80], 36) := by decide +kernel
theorem dX3_read_84 : decode cX3_read 84 = .ok (.aload_n 0, 1) := by decide +kernel
theorem dX3_read_85 : decode cX3_read 85 = .ok (.aload_n 1, 1) := by decide +kernel
theorem dX3_read_86 : decode cX3_read 86 = .ok (.aload_n 2, 1) := by decide +kernel
theorem dX3_read_87 : decode cX3_read 87 = .ok (.invokevirtual 68, 3) := by decide +kernel
theorem dX3_read_90 : decode cX3_read 90 = .ok (.goto 69, 3) := by decide +kernel
theorem dX3_read_93 : decode cX3_read 93 = .ok (.aload_n 0, 1) := by decide +kernel
theorem dX3_read_94 : decode cX3_read 94 = .ok (.aload_n 1, 1) := by decide +kernel
theorem dX3_read_95 : decode cX3_read 95 = .ok (.aload_n 2, 1) := by decide +kernel
theorem dX3_read_96 : decode cX3_read 96 = .ok (.invokevirtual 72, 3) := by decide +kernel
theorem dX3_read_99 : decode cX3_read 99 = .ok (.goto 60, 3) := by decide +kernel
theorem dX3_read_102 : decode cX3_read 102 = .ok (.aload_n 0, 1) := by decide +kernel
theorem dX3_read_103 : decode cX3_read 103 = .ok (.aload_n 1, 1) := by decide +kernel
theorem dX3_read_104 : decode cX3_read 104 = .ok (.invokevirtual 75, 3) := by decide +kernel
theorem dX3_read_107 : decode cX3_read 107 = .ok (.goto 52, 3) := by decide +kernel
theorem dX3_read_110 : decode cX3_read 110 = .ok (.aload_n 0, 1) := by decide +kernel
theorem dX3_read_111 : decode cX3_read 111 = .ok (.aload_n 1, 1) := by decide +kernel
theorem dX3_read_112 : decode cX3_read 112 = .ok (.iconst 0, 1) := by decide +kernel
theorem dX3_read_113 : decode cX3_read 113 = .ok (.iconst 5, 1) := by decide +kernel
theorem dX3_read_114 : decode cX3_read 114 = .ok (.invokevirtual 79, 3) := by decide +kernel
theorem dX3_read_117 : decode cX3_read 117 = .ok (.putfield 31, 3) := by decide +kernel
theorem dX3_read_120 : decode cX3_read 120 = .ok (.aload_n 0, 1) := by decide +kernel
theorem dX3_read_121 : decode cX3_read 121 = .ok (.iconst 1, 1) := by decide +kernel
theorem dX3_read_122 : decode cX3_read 122 = .ok (.putfield 38, 3) := by decide +kernel
theorem dX3_read_125 : decode cX3_read 125 = .ok (.goto 34, 3) := by decide +kernel
theorem dX3_read_128 : decode cX3_read 128 = .ok (.aload_n 0, 1) := by decide +kernel
theorem dX3_read_129 : decode cX3_read 129 = .ok (.aload_n 1, 1) := by decide +kernel
theorem dX3_read_130 : decode cX3_read 130 = .ok (.iconst 1, 1) := by decide +kernel
theorem dX3_read_131 : decode cX3_read 131 = .ok (.bipush 20, 2) := by decide +kernel
theorem dX3_read_133 : decode cX3_read 133 = .ok (.invokevirtual 79, 3) := by decide +kernel
theorem dX3_read_136 : decode cX3_read 136 = .ok (.putfield 35, 3) := by decide +kernel
theorem dX3_read_139 : decode cX3_read 139 = .ok (.aload_n 0, 1) := by decide +kernel
theorem dX3_read_140 : decode cX3_read 140 = .ok (.iconst 1, 1) := by decide +kernel
theorem dX3_read_141 : decode cX3_read 141 = .ok (.putfield 42, 3) := by decide +kernel
theorem dX3_read_144 : decode cX3_read 144 = .ok (.goto 15, 3) := by decide +kernel
theorem dX3_read_147 : decode cX3_read 147 = .ok (.aload_n 0, 1) := by decide +kernel
theorem dX3_read_148 : decode cX3_read 148 = .ok (.aload_n 1, 1) := by decide +kernel
theorem dX3_read_149 : decode cX3_read 149 = .ok (.aload_n 2, 1) := by decide +kernel
theorem dX3_read_150 : decode cX3_read 150 = .ok (.iload 4, 2) := by decide +kernel
theorem dX3_read_152 : decode cX3_read 152 = .ok (.sipush 128, 3) := by decide +kernel
theorem dX3_read_155 : decode cX3_read 155 = .ok (.isub, 1) := by decide +kernel
theorem dX3_read_156 : decode cX3_read 156 = .ok (.invokevirtual 83, 3) := by decide +kernel
theorem dX3_read_159 : decode cX3_read 159 = .ok (.aload_n 1, 1) := by decide +kernel
theorem dX3_read_160 : decode cX3_read 160 = .ok (.bipush 59, 2) := by decide +kernel
theorem dX3_read_162 : decode cX3_read 162 = .ok (.invokevirtual 87, 3) := by decide +kernel
theorem dX3_read_165 : decode cX3_read 165 = .ok (.iinc 3 1, 3) := by decide +kernel
theorem dX3_read_168 : decode cX3_read 168 = .ok (.goto (-154), 3) := by decide +kernel
theorem dX3_read_171 : decode cX3_read 171 = .ok (.iload_n 3, 1) := by decide +kernel
theorem dX3_read_172 : decode cX3_read 172 = .ok (.ireturn, 1) := by decide +kernel
theorem dX3_readNamed_0 : decode cX3_readNamed 0 = .ok (.aload_n 0, 1) := by decide +kernel
theorem dX3_readNamed_1 : decode cX3_readNamed 1 = .ok (.aload_n 1, 1) := by decide +kernel
theorem dX3_readNamed_2 : decode cX3_readNamed 2 = .ok (.iload_n 3, 1) := by decide +kernel
theorem dX3_readNamed_3 : decode cX3_readNamed 3 = .ok (.invokevirtual 99, 3) := by decide +kernel
theorem dX3_readNamed_6 : decode cX3_readNamed 6 = .ok (.istore 4, 2) := by decide +kernel
theorem dX3_readNamed_8 : decode cX3_readNamed 8 = .ok (.iload 4, 2) := by decide +kernel
theorem dX3_readNamed_10 : decode cX3_readNamed 10 = .ok (.iconst (-1), 1) := by decide +kernel
theorem dX3_readNamed_11 : decode cX3_readNamed 11 = .ok (.if_icmp .ne 4, 3) := by decide +kernel
theorem dX3_readNamed_14 : decode cX3_readNamed 14 = .ok (.return_, 1) := by decide +kernel
theorem dX3_readNamed_15 : decode cX3_readNamed 15 = .ok (.iload_n 3, 1) := by decide +kernel
theorem dX3_readNamed_16 : decode cX3_readNamed 16 = .ok (.ifCond .ne 20, 3) := by decide +kernel
theorem dX3_readNamed_19 : decode cX3_readNamed 19 = .ok (.aload_n 0, 1) := by decide +kernel
theorem dX3_readNamed_20 : decode cX3_readNamed 20 = .ok (.getfield 22, 3) := by decide +kernel
theorem dX3_readNamed_23 : decode cX3_readNamed 23 = .ok (.iload 4, 2) := by decide +kernel
theorem dX3_readNamed_25 : decode cX3_readNamed 25 = .ok (.aload_n 1, 1) := by decide +kernel
theorem dX3_readNamed_26 : decode cX3_readNamed 26 = .ok (.iconst 1, 1) := by decide +kernel
theorem dX3_readNamed_27 : decode cX3_readNamed 27 = .ok (.bipush 60, 2) := by decide +kernel
theorem dX3_readNamed_29 : decode cX3_readNamed 29 = .ok (.invokevirtual 79, 3) := by decide +kernel
theorem dX3_readNamed_32 : decode cX3_readNamed 32 = .ok (.iastore, 1) := by decide +kernel
theorem dX3_readNamed_33 : decode cX3_readNamed 33 = .ok (.goto 64, 3) := by decide +kernel
theorem dX3_readNamed_36 : decode cX3_readNamed 36 = .ok (.iload_n 3, 1) := by decide +kernel
theorem dX3_readNamed_37 : decode cX3_readNamed 37 = .ok (.iconst 2, 1) := by decide +kernel
theorem dX3_readNamed_38 : decode cX3_readNamed 38 = .ok (.if_icmp .ne 23, 3) := by decide +kernel
theorem dX3_readNamed_41 : decode cX3_readNamed 41 = .ok (.aload_n 2, 1) := by decide +kernel
theorem dX3_readNamed_42 : decode cX3_readNamed 42 = .ok (.getfield 103, 3) := by decide +kernel
theorem dX3_readNamed_45 : decode cX3_readNamed 45 = .ok (.iload 4, 2) := by decide +kernel
theorem dX3_readNamed_47 : decode cX3_readNamed 47 = .ok (.iconst 0, 1) := by decide +kernel
theorem dX3_readNamed_48 : decode cX3_readNamed 48 = .ok (.aload_n 1, 1) := by decide +kernel
theorem dX3_readNamed_49 : decode cX3_readNamed 49 = .ok (.aload_n 0, 1) := by decide +kernel
theorem dX3_readNamed_50 : decode cX3_readNamed 50 = .ok (.iconst 1, 1) := by decide +kernel
theorem dX3_readNamed_51 : decode cX3_readNamed 51 = .ok (.invokevirtual 106, 3) := by decide +kernel
theorem dX3_readNamed_54 : decode cX3_readNamed 54 = .ok (.invokestatic 110, 3) := by decide +kernel
theorem dX3_readNamed_57 : decode cX3_readNamed 57 = .ok (.iastore, 1) := by decide +kernel
theorem dX3_readNamed_58 : decode cX3_readNamed 58 = .ok (.goto 39, 3) := by decide +kernel
theorem dX3_readNamed_61 : decode cX3_readNamed 61 = .ok (.iload_n 3, 1) := by decide +kernel
theorem dX3_readNamed_62 : decode cX3_readNamed 62 = .ok (.iconst 3, 1) := by decide +kernel
theorem dX3_readNamed_63 : decode cX3_readNamed 63 = .ok (.if_icmp .ne 34, 3) := by decide +kernel
theorem dX3_readNamed_66 : decode cX3_readNamed 66 = .ok (.aload_n 2, 1) := by decide +kernel
theorem dX3_readNamed_67 : decode cX3_readNamed 67 = .ok (.getfield 115, 3) := by decide +kernel
theorem dX3_readNamed_70 : decode cX3_readNamed 70 = .ok (.iload 4, 2) := by decide +kernel
theorem dX3_readNamed_72 : decode cX3_readNamed 72 = .ok (.iconst 0, 1) := by decide +kernel
theorem dX3_readNamed_73 : decode cX3_readNamed 73 = .ok (.aload_n 1, 1) := by decide +kernel
theorem dX3_readNamed_74 : decode cX3_readNamed 74 = .ok (.aload_n 0, 1) := by decide +kernel
theorem dX3_readNamed_75 : decode cX3_readNamed 75 = .ok (.iconst 0, 1) := by decide +kernel
theorem dX3_readNamed_76 : decode cX3_readNamed 76 = .ok (.invokevirtual 106, 3) := by decide +kernel
theorem dX3_readNamed_79 : decode cX3_readNamed 79 = .ok (.invokestatic 110, 3) := by decide +kernel
theorem dX3_readNamed_82 : decode cX3_readNamed 82 = .ok (.iastore, 1) := by decide +kernel
theorem dX3_readNamed_83 : decode cX3_readNamed 83 = .ok (.aload_n 0, 1) := by decide +kernel
theorem dX3_readNamed_84 : decode cX3_readNamed 84 = .ok (.getfield 28, 3) := by decide +kernel
theorem dX3_readNamed_87 : decode cX3_readNamed 87 = .ok (.iload 4, 2) := by decide +kernel
theorem dX3_readNamed_89 : decode cX3_readNamed 89 = .ok (.aload_n 1, 1) := by decide +kernel
theorem dX3_readNamed_90 : decode cX3_readNamed 90 = .ok (.iconst 1, 1) := by decide +kernel
theorem dX3_readNamed_91 : decode cX3_readNamed 91 = .ok (.bipush 9, 2) := by decide +kernel
theorem dX3_readNamed_93 : decode cX3_readNamed 93 = .ok (.invokevirtual 79, 3) := by decide +kernel
theorem dX3_readNamed_96 : decode cX3_readNamed 96 = .ok (.iastore, 1) := by decide +kernel
theorem dX3_readNamed_97 : decode cX3_readNamed 97 = .ok (.return_, 1) := by decide +kernel
theorem dX3_tellName_0 : decode cX3_tellName 0 = .ok (.aload_n 1, 1) := by decide +kernel
theorem dX3_tellName_1 : decode cX3_tellName 1 = .ok (.getfield 61, 3) := by decide +kernel
theorem dX3_tellName_4 : decode cX3_tellName 4 = .ok (.iconst 2, 1) := by decide +kernel
theorem dX3_tellName_5 : decode cX3_tellName 5 = .ok (.if_icmp .eq 11, 3) := by decide +kernel
theorem dX3_tellName_8 : decode cX3_tellName 8 = .ok (.aload_n 1, 1) := by decide +kernel
theorem dX3_tellName_9 : decode cX3_tellName 9 = .ok (.iconst 1, 1) := by decide +kernel
theorem dX3_tellName_10 : decode cX3_tellName 10 = .ok (.invokevirtual 90, 3) := by decide +kernel
theorem dX3_tellName_13 : decode cX3_tellName 13 = .ok (.goto 19, 3) := by decide +kernel
theorem dX3_tellName_16 : decode cX3_tellName 16 = .ok (.aload_n 0, 1) := by decide +kernel
theorem dX3_tellName_17 : decode cX3_tellName 17 = .ok (.aload_n 1, 1) := by decide +kernel
theorem dX3_tellName_18 : decode cX3_tellName 18 = .ok (.getfield 118, 3) := by decide +kernel
theorem dX3_tellName_21 : decode cX3_tellName 21 = .ok (.invokevirtual 122, 3) := by decide +kernel
theorem dX3_tellName_24 : decode cX3_tellName 24 = .ok (.ifCond .eq 8, 3) := by decide +kernel
theorem dX3_tellName_27 : decode cX3_tellName 27 = .ok (.aload_n 1, 1) := by decide +kernel
theorem dX3_tellName_28 : decode cX3_tellName 28 = .ok (.iconst 3, 1) := by decide +kernel
theorem dX3_tellName_29 : decode cX3_tellName 29 = .ok (.invokevirtual 90, 3) := by decide +kernel
theorem dX3_tellName_32 : decode cX3_tellName 32 = .ok (.aload_n 1, 1) := by decide +kernel
theorem dX3_tellName_33 : decode cX3_tellName 33 = .ok (.getfield 96, 3) := by decide +kernel
theorem dX3_tellName_36 : decode cX3_tellName 36 = .ok (.ifCond .eq 5, 3) := by decide +kernel
theorem dX3_tellName_39 : decode cX3_tellName 39 = .ok (.iconst (-1), 1) := by decide +kernel
theorem dX3_tellName_40 : decode cX3_tellName 40 = .ok (.ireturn, 1) := by decide +kernel
theorem dX3_tellName_41 : decode cX3_tellName 41 = .ok (.aload_n 0, 1) := by decide +kernel
theorem dX3_tellName_42 : decode cX3_tellName 42 = .ok (.getfield 19, 3) := by decide +kernel
theorem dX3_tellName_45 : decode cX3_tellName 45 = .ok (.iload_n 2, 1) := by decide +kernel
theorem dX3_tellName_46 : decode cX3_tellName 46 = .ok (.iaload, 1) := by decide +kernel
theorem dX3_tellName_47 : decode cX3_tellName 47 = .ok (.istore_n 3, 1) := by decide +kernel
theorem dX3_tellName_48 : decode cX3_tellName 48 = .ok (.aload_n 0, 1) := by decide +kernel
theorem dX3_tellName_49 : decode cX3_tellName 49 = .ok (.getfield 15, 3) := by decide +kernel
theorem dX3_tellName_52 : decode cX3_tellName 52 = .ok (.iload_n 2, 1) := by decide +kernel
theorem dX3_tellName_53 : decode cX3_tellName 53 = .ok (.bipush 8, 2) := by decide +kernel
theorem dX3_tellName_55 : decode cX3_tellName 55 = .ok (.imul, 1) := by decide +kernel
theorem dX3_tellName_56 : decode cX3_tellName 56 = .ok (.iload_n 3, 1) := by decide +kernel
theorem dX3_tellName_57 : decode cX3_tellName 57 = .ok (.iadd, 1) := by decide +kernel
theorem dX3_tellName_58 : decode cX3_tellName 58 = .ok (.aload_n 1, 1) := by decide +kernel
theorem dX3_tellName_59 : decode cX3_tellName 59 = .ok (.getfield 118, 3) := by decide +kernel
theorem dX3_tellName_62 : decode cX3_tellName 62 = .ok (.lastore, 1) := by decide +kernel
theorem dX3_tellName_63 : decode cX3_tellName 63 = .ok (.aload_n 0, 1) := by decide +kernel
theorem dX3_tellName_64 : decode cX3_tellName 64 = .ok (.getfield 19, 3) := by decide +kernel
theorem dX3_tellName_67 : decode cX3_tellName 67 = .ok (.iload_n 2, 1) := by decide +kernel
theorem dX3_tellName_68 : decode cX3_tellName 68 = .ok (.iload_n 3, 1) := by decide +kernel
theorem dX3_tellName_69 : decode cX3_tellName 69 = .ok (.iconst 1, 1) := by decide +kernel
theorem dX3_tellName_70 : decode cX3_tellName 70 = .ok (.iadd, 1) := by decide +kernel
theorem dX3_tellName_71 : decode cX3_tellName 71 = .ok (.iastore, 1) := by decide +kernel
theorem dX3_tellName_72 : decode cX3_tellName 72 = .ok (.aload_n 1, 1) := by decide +kernel
theorem dX3_tellName_73 : decode cX3_tellName 73 = .ok (.invokevirtual 93, 3) := by decide +kernel
theorem dX3_tellName_76 : decode cX3_tellName 76 = .ok (.iload_n 3, 1) := by decide +kernel
theorem dX3_tellName_77 : decode cX3_tellName 77 = .ok (.ireturn, 1) := by decide +kernel
theorem dX9_book_0 : decode cX9_book 0 = .ok (.iload_n 1, 1) := by decide +kernel
theorem dX9_book_1 : decode cX9_book 1 = .ok (.ifCond .eq 12, 3) := by decide +kernel
theorem dX9_book_4 : decode cX9_book 4 = .ok (.iload_n 1, 1) := by decide +kernel
theorem dX9_book_5 : decode cX9_book 5 = .ok (.iconst 1, 1) := by decide +kernel
theorem dX9_book_6 : decode cX9_book 6 = .ok (.if_icmp .eq 7, 3) := by decide +kernel
theorem dX9_book_9 : decode cX9_book 9 = .ok (.sipush (-1000), 3) := by decide +kernel
theorem dX9_book_12 : decode cX9_book 12 = .ok (.ireturn, 1) := by decide +kernel
theorem dX9_book_13 : decode cX9_book 13 = .ok (.aload_n 0, 1) := by decide +kernel
theorem dX9_book_14 : decode cX9_book 14 = .ok (.getfield 19, 3) := by decide +kernel
theorem dX9_book_17 : decode cX9_book 17 = .ok (.aload_n 0, 1) := by decide +kernel
theorem dX9_book_18 : decode cX9_book 18 = .ok (.getfield 10, 3) := by decide +kernel
theorem dX9_book_21 : decode cX9_book 21 = .ok (.aload_n 0, 1) := by decide +kernel
theorem dX9_book_22 : decode cX9_book 22 = .ok (.getfield 65, 3) := by decide +kernel
theorem dX9_book_25 : decode cX9_book 25 = .ok (.getfield 168, 3) := by decide +kernel
theorem dX9_book_28 : decode cX9_book 28 = .ok (.invokevirtual 331, 3) := by decide +kernel
theorem dX9_book_31 : decode cX9_book 31 = .ok (.aload_n 0, 1) := by decide +kernel
theorem dX9_book_32 : decode cX9_book 32 = .ok (.invokevirtual 107, 3) := by decide +kernel
theorem dX9_book_35 : decode cX9_book 35 = .ok (.aload_n 0, 1) := by decide +kernel
theorem dX9_book_36 : decode cX9_book 36 = .ok (.getfield 44, 3) := by decide +kernel
theorem dX9_book_39 : decode cX9_book 39 = .ok (.ifCond .eq 14, 3) := by decide +kernel
theorem dX9_book_42 : decode cX9_book 42 = .ok (.bipush (-2), 2) := by decide +kernel
theorem dX9_book_44 : decode cX9_book 44 = .ok (.aload_n 0, 1) := by decide +kernel
theorem dX9_book_45 : decode cX9_book 45 = .ok (.getfield 10, 3) := by decide +kernel
theorem dX9_book_48 : decode cX9_book 48 = .ok (.getfield 110, 3) := by decide +kernel
theorem dX9_book_51 : decode cX9_book 51 = .ok (.isub, 1) := by decide +kernel
theorem dX9_book_52 : decode cX9_book 52 = .ok (.ireturn, 1) := by decide +kernel
theorem dX9_book_53 : decode cX9_book 53 = .ok (.aload_n 0, 1) := by decide +kernel
theorem dX9_book_54 : decode cX9_book 54 = .ok (.getfield 69, 3) := by decide +kernel
theorem dX9_book_57 : decode cX9_book 57 = .ok (.aload_n 0, 1) := by decide +kernel
theorem dX9_book_58 : decode cX9_book 58 = .ok (.getfield 65, 3) := by decide +kernel
theorem dX9_book_61 : decode cX9_book 61 = .ok (.invokevirtual 113, 3) := by decide +kernel
theorem dX9_book_64 : decode cX9_book 64 = .ok (.aload_n 0, 1) := by decide +kernel
theorem dX9_book_65 : decode cX9_book 65 = .ok (.getfield 19, 3) := by decide +kernel
theorem dX9_book_68 : decode cX9_book 68 = .ok (.aload_n 0, 1) := by decide +kernel
theorem dX9_book_69 : decode cX9_book 69 = .ok (.getfield 69, 3) := by decide +kernel
theorem dX9_book_72 : decode cX9_book 72 = .ok (.invokevirtual 334, 3) := by decide +kernel
theorem dX9_book_75 : decode cX9_book 75 = .ok (.istore_n 2, 1) := by decide +kernel
theorem dX9_book_76 : decode cX9_book 76 = .ok (.aload_n 0, 1) := by decide +kernel
theorem dX9_book_77 : decode cX9_book 77 = .ok (.getfield 23, 3) := by decide +kernel
theorem dX9_book_80 : decode cX9_book 80 = .ok (.iconst 0, 1) := by decide +kernel
theorem dX9_book_81 : decode cX9_book 81 = .ok (.iload_n 2, 1) := by decide +kernel
theorem dX9_book_82 : decode cX9_book 82 = .ok (.iastore, 1) := by decide +kernel
theorem dX9_book_83 : decode cX9_book 83 = .ok (.aload_n 0, 1) := by decide +kernel
theorem dX9_book_84 : decode cX9_book 84 = .ok (.getfield 23, 3) := by decide +kernel
theorem dX9_book_87 : decode cX9_book 87 = .ok (.iconst 1, 1) := by decide +kernel
theorem dX9_book_88 : decode cX9_book 88 = .ok (.aload_n 0, 1) := by decide +kernel
theorem dX9_book_89 : decode cX9_book 89 = .ok (.getfield 19, 3) := by decide +kernel
theorem dX9_book_92 : decode cX9_book 92 = .ok (.getfield 337, 3) := by decide +kernel
theorem dX9_book_95 : decode cX9_book 95 = .ok (.iastore, 1) := by decide +kernel
theorem dX9_book_96 : decode cX9_book 96 = .ok (.aload_n 0, 1) := by decide +kernel
theorem dX9_book_97 : decode cX9_book 97 = .ok (.getfield 23, 3) := by decide +kernel
theorem dX9_book_100 : decode cX9_book 100 = .ok (.iconst 2, 1) := by decide +kernel
theorem dX9_book_101 : decode cX9_book 101 = .ok (.aload_n 0, 1) := by decide +kernel
theorem dX9_book_102 : decode cX9_book 102 = .ok (.getfield 69, 3) := by decide +kernel
theorem dX9_book_105 : decode cX9_book 105 = .ok (.getfield 192, 3) := by decide +kernel
theorem dX9_book_108 : decode cX9_book 108 = .ok (.iastore, 1) := by decide +kernel
theorem dX9_book_109 : decode cX9_book 109 = .ok (.aload_n 0, 1) := by decide +kernel
theorem dX9_book_110 : decode cX9_book 110 = .ok (.getfield 23, 3) := by decide +kernel
theorem dX9_book_113 : decode cX9_book 113 = .ok (.iconst 3, 1) := by decide +kernel
theorem dX9_book_114 : decode cX9_book 114 = .ok (.aload_n 0, 1) := by decide +kernel
theorem dX9_book_115 : decode cX9_book 115 = .ok (.getfield 69, 3) := by decide +kernel
theorem dX9_book_118 : decode cX9_book 118 = .ok (.invokevirtual 199, 3) := by decide +kernel
theorem dX9_book_121 : decode cX9_book 121 = .ok (.iastore, 1) := by decide +kernel
theorem dX9_book_122 : decode cX9_book 122 = .ok (.iload_n 1, 1) := by decide +kernel
theorem dX9_book_123 : decode cX9_book 123 = .ok (.iconst 1, 1) := by decide +kernel
theorem dX9_book_124 : decode cX9_book 124 = .ok (.if_icmp .ne 32, 3) := by decide +kernel
theorem dX9_book_127 : decode cX9_book 127 = .ok (.aload_n 0, 1) := by decide +kernel
theorem dX9_book_128 : decode cX9_book 128 = .ok (.getfield 75, 3) := by decide +kernel
theorem dX9_book_131 : decode cX9_book 131 = .ok (.aload_n 0, 1) := by decide +kernel
theorem dX9_book_132 : decode cX9_book 132 = .ok (.getfield 65, 3) := by decide +kernel
theorem dX9_book_135 : decode cX9_book 135 = .ok (.invokevirtual 212, 3) := by decide +kernel
theorem dX9_book_138 : decode cX9_book 138 = .ok (.aload_n 0, 1) := by decide +kernel
theorem dX9_book_139 : decode cX9_book 139 = .ok (.getfield 75, 3) := by decide +kernel
theorem dX9_book_142 : decode cX9_book 142 = .ok (.invokevirtual 230, 3) := by decide +kernel
theorem dX9_book_145 : decode cX9_book 145 = .ok (.aload_n 0, 1) := by decide +kernel
theorem dX9_book_146 : decode cX9_book 146 = .ok (.getfield 65, 3) := by decide +kernel
theorem dX9_book_149 : decode cX9_book 149 = .ok (.aload_n 0, 1) := by decide +kernel
theorem dX9_book_150 : decode cX9_book 150 = .ok (.getfield 69, 3) := by decide +kernel
theorem dX9_book_153 : decode cX9_book 153 = .ok (.invokevirtual 113, 3) := by decide +kernel
theorem dX9_book_156 : decode cX9_book 156 = .ok (.iload_n 2, 1) := by decide +kernel
theorem dX9_book_157 : decode cX9_book 157 = .ok (.ifCond .ne 7, 3) := by decide +kernel
theorem dX9_book_160 : decode cX9_book 160 = .ok (.iconst (-1), 1) := by decide +kernel
theorem dX9_book_161 : decode cX9_book 161 = .ok (.goto 10, 3) := by decide +kernel
theorem dX9_book_164 : decode cX9_book 164 = .ok (.aload_n 0, 1) := by decide +kernel
theorem dX9_book_165 : decode cX9_book 165 = .ok (.getfield 19, 3) := by decide +kernel
theorem dX9_book_168 : decode cX9_book 168 = .ok (.getfield 337, 3) := by decide +kernel
theorem dX9_book_171 : decode cX9_book 171 = .ok (.ireturn, 1) := by decide +kernel
theorem dX9_nearestToHalf_0 : decode cX9_nearestToHalf 0 = .ok (.iconst (-1), 1) := by decide +kernel
theorem dX9_nearestToHalf_1 : decode cX9_nearestToHalf 1 = .ok (.istore_n 3, 1) := by decide +kernel
theorem dX9_nearestToHalf_2 : decode cX9_nearestToHalf 2 = .ok (.iconst 0, 1) := by decide +kernel
theorem dX9_nearestToHalf_3 : decode cX9_nearestToHalf 3 = .ok (.istore 4, 2) := by decide +kernel
theorem dX9_nearestToHalf_5 : decode cX9_nearestToHalf 5 = .ok (.iconst 0, 1) := by decide +kernel
theorem dX9_nearestToHalf_6 : decode cX9_nearestToHalf 6 = .ok (.istore 5, 2) := by decide +kernel
theorem dX9_nearestToHalf_8 : decode cX9_nearestToHalf 8 = .ok (.iload 5, 2) := by decide +kernel
theorem dX9_nearestToHalf_10 : decode cX9_nearestToHalf 10 = .ok (.iload_n 1, 1) := by decide +kernel
theorem dX9_nearestToHalf_11 : decode cX9_nearestToHalf 11 = .ok (.if_icmp .ge 48, 3) := by decide +kernel
theorem dX9_nearestToHalf_14 : decode cX9_nearestToHalf 14 = .ok (.iload 5, 2) := by decide +kernel
theorem dX9_nearestToHalf_16 : decode cX9_nearestToHalf 16 = .ok (.aload_n 0, 1) := by decide +kernel
theorem dX9_nearestToHalf_17 : decode cX9_nearestToHalf 17 = .ok (.arraylength, 1) := by decide +kernel
theorem dX9_nearestToHalf_18 : decode cX9_nearestToHalf 18 = .ok (.if_icmp .ge 41, 3) := by decide +kernel
theorem dX9_nearestToHalf_21 : decode cX9_nearestToHalf 21 = .ok (.iconst 2, 1) := by decide +kernel
theorem dX9_nearestToHalf_22 : decode cX9_nearestToHalf 22 = .ok (.aload_n 0, 1) := by decide +kernel
theorem dX9_nearestToHalf_23 : decode cX9_nearestToHalf 23 = .ok (.iload 5, 2) := by decide +kernel
theorem dX9_nearestToHalf_25 : decode cX9_nearestToHalf 25 = .ok (.iaload, 1) := by decide +kernel
theorem dX9_nearestToHalf_26 : decode cX9_nearestToHalf 26 = .ok (.imul, 1) := by decide +kernel
theorem dX9_nearestToHalf_27 : decode cX9_nearestToHalf 27 = .ok (.iload_n 2, 1) := by decide +kernel
theorem dX9_nearestToHalf_28 : decode cX9_nearestToHalf 28 = .ok (.isub, 1) := by decide +kernel
theorem dX9_nearestToHalf_29 : decode cX9_nearestToHalf 29 = .ok (.invokestatic 381, 3) := by decide +kernel
theorem dX9_nearestToHalf_32 : decode cX9_nearestToHalf 32 = .ok (.istore 6, 2) := by decide +kernel
theorem dX9_nearestToHalf_34 : decode cX9_nearestToHalf 34 = .ok (.iload_n 3, 1) := by decide +kernel
theorem dX9_nearestToHalf_35 : decode cX9_nearestToHalf 35 = .ok (.iconst (-1), 1) := by decide +kernel
theorem dX9_nearestToHalf_36 : decode cX9_nearestToHalf 36 = .ok (.if_icmp .eq 10, 3) := by decide +kernel
theorem dX9_nearestToHalf_39 : decode cX9_nearestToHalf 39 = .ok (.iload 6, 2) := by decide +kernel
theorem dX9_nearestToHalf_41 : decode cX9_nearestToHalf 41 = .ok (.iload 4, 2) := by decide +kernel
theorem dX9_nearestToHalf_43 : decode cX9_nearestToHalf 43 = .ok (.if_icmp .ge 10, 3) := by decide +kernel
theorem dX9_nearestToHalf_46 : decode cX9_nearestToHalf 46 = .ok (.iload 5, 2) := by decide +kernel
theorem dX9_nearestToHalf_48 : decode cX9_nearestToHalf 48 = .ok (.istore_n 3, 1) := by decide +kernel
theorem dX9_nearestToHalf_49 : decode cX9_nearestToHalf 49 = .ok (.iload 6, 2) := by decide +kernel
theorem dX9_nearestToHalf_51 : decode cX9_nearestToHalf 51 = .ok (.istore 4, 2) := by decide +kernel
theorem dX9_nearestToHalf_53 : decode cX9_nearestToHalf 53 = .ok (.iinc 5 1, 3) := by decide +kernel
theorem dX9_nearestToHalf_56 : decode cX9_nearestToHalf 56 = .ok (.goto (-48), 3) := by decide +kernel
theorem dX9_nearestToHalf_59 : decode cX9_nearestToHalf 59 = .ok (.iload_n 3, 1) := by decide +kernel
theorem dX9_nearestToHalf_60 : decode cX9_nearestToHalf 60 = .ok (.ireturn, 1) := by decide +kernel
theorem rl_137 : RI 137 137 137 := by unfold RI; decide +kernel
theorem rl_138 : RI 138 138 138 := by unfold RI; decide +kernel
theorem rl_140 : RI 140 140 140 := by unfold RI; decide +kernel
theorem rl_142 : RI 142 142 142 := by unfold RI; decide +kernel
