theorem inX9 : ∀ w ∈ u_ws RX9 TX9 15, w ∈ gT := by decide +kernel
theorem dfX9 : ∀ j, j < 15 → defaultValue (tyX9 j) = vp_V [.null, .null, .null, .null, .null, .null, .null, .null, .null, .null, .null, .int 0, .int 0, .int 0, .int 0] j := by decide +kernel
theorem tw_2 : Cond.initialized RX7 ∈ gT := gT_t (List.mem_of_getElem? (i := 2) (by decide +kernel)) (by decide +kernel)
theorem tw_7 : Cond.initialized RX0 ∈ gT := gT_t (List.mem_of_getElem? (i := 7) (by decide +kernel)) (by decide +kernel)
theorem tw_8 : Cond.initialized RX4 ∈ gT := gT_t (List.mem_of_getElem? (i := 8) (by decide +kernel)) (by decide +kernel)
theorem tw_10 : Cond.initialized RX6 ∈ gT := gT_t (List.mem_of_getElem? (i := 10) (by decide +kernel)) (by decide +kernel)
theorem tw_11 : Cond.initialized RX3 ∈ gT := gT_t (List.mem_of_getElem? (i := 11) (by decide +kernel)) (by decide +kernel)
theorem tw_13 : Cond.initialized RX1 ∈ gT := gT_t (List.mem_of_getElem? (i := 13) (by decide +kernel)) (by decide +kernel)
theorem tw_14 : Cond.initialized RX2 ∈ gT := gT_t (List.mem_of_getElem? (i := 14) (by decide +kernel)) (by decide +kernel)
theorem tw_16 : Cond.initialized RJ9 ∈ gT := gT_t (List.mem_of_getElem? (i := 16) (by decide +kernel)) (by decide +kernel)
theorem tw_17 : Cond.initialized RJ10 ∈ gT := gT_t (List.mem_of_getElem? (i := 17) (by decide +kernel)) (by decide +kernel)
theorem tw_29 : Cond.methodLink RX9 (1 : Nat) (⟨"java/lang/Object", "<init>", "()V"⟩ : MethodName) ∈ gT := gT_t (List.mem_of_getElem? (i := 29) (by decide +kernel)) (by decide +kernel)
theorem tw_32 : Cond.classLink RX9 (7 : Nat) RX7 ∈ gT := gT_t (List.mem_of_getElem? (i := 32) (by decide +kernel)) (by decide +kernel)
theorem tw_33 : Cond.instantiable RX7 (12 : Nat) ∈ gT := gT_t (List.mem_of_getElem? (i := 33) (by decide +kernel)) (by decide +kernel)
theorem tw_34 : Cond.methodLink RX9 (9 : Nat) yX7_init ∈ gT := gT_t (List.mem_of_getElem? (i := 34) (by decide +kernel)) (by decide +kernel)
theorem tw_35 : Cond.instanceMethod yX7_init ∈ gT := gT_t (List.mem_of_getElem? (i := 35) (by decide +kernel)) (by decide +kernel)
theorem tw_36 : Cond.code yX7_init cX7_init 6 none ∈ gT := gT_t (List.mem_of_getElem? (i := 36) (by decide +kernel)) (by decide +kernel)
theorem tw_91 : Cond.fieldLink RX7 (38 : Nat) "WonderParcels$Tape" "stop" "I" ∈ gT := gT_t (List.mem_of_getElem? (i := 91) (by decide +kernel)) (by decide +kernel)
theorem tw_92 : Cond.fieldLink RX7 (34 : Nat) "WonderParcels$Tape" "tooLong" "Z" ∈ gT := gT_t (List.mem_of_getElem? (i := 92) (by decide +kernel)) (by decide +kernel)
theorem tw_93 : Cond.fieldLink RX7 (60 : Nat) "WonderParcels$Tape" "begin" "I" ∈ gT := gT_t (List.mem_of_getElem? (i := 93) (by decide +kernel)) (by decide +kernel)
theorem tw_94 : Cond.fieldLink RX7 (41 : Nat) "WonderParcels$Tape" "after" "I" ∈ gT := gT_t (List.mem_of_getElem? (i := 94) (by decide +kernel)) (by decide +kernel)
theorem tw_98 : Cond.fieldLink RX7 (53 : Nat) "WonderParcels$Tape" "kind" "I" ∈ gT := gT_t (List.mem_of_getElem? (i := 98) (by decide +kernel)) (by decide +kernel)
theorem tw_104 : Cond.fieldLink RX7 (44 : Nat) "WonderParcels$Tape" "fault" "I" ∈ gT := gT_t (List.mem_of_getElem? (i := 104) (by decide +kernel)) (by decide +kernel)
theorem tw_108 : Cond.fieldLink RX7 (47 : Nat) "WonderParcels$Tape" "place" "I" ∈ gT := gT_t (List.mem_of_getElem? (i := 108) (by decide +kernel)) (by decide +kernel)
theorem tw_136 : Cond.classLink RX9 (16 : Nat) RX0 ∈ gT := gT_t (List.mem_of_getElem? (i := 136) (by decide +kernel)) (by decide +kernel)
theorem tw_137 : Cond.instantiable RX0 (5 : Nat) ∈ gT := gT_t (List.mem_of_getElem? (i := 137) (by decide +kernel)) (by decide +kernel)
theorem tw_139 : Cond.instanceMethod yX0_init ∈ gT := gT_t (List.mem_of_getElem? (i := 139) (by decide +kernel)) (by decide +kernel)
theorem tw_140 : Cond.code yX0_init cX0_init 1 none ∈ gT := gT_t (List.mem_of_getElem? (i := 140) (by decide +kernel)) (by decide +kernel)
theorem tw_160 : Cond.classLink RX9 (27 : Nat) RX4 ∈ gT := gT_t (List.mem_of_getElem? (i := 160) (by decide +kernel)) (by decide +kernel)
theorem tw_161 : Cond.instantiable RX4 (2 : Nat) ∈ gT := gT_t (List.mem_of_getElem? (i := 161) (by decide +kernel)) (by decide +kernel)
theorem tw_162 : Cond.methodLink RX9 (29 : Nat) yX4_init ∈ gT := gT_t (List.mem_of_getElem? (i := 162) (by decide +kernel)) (by decide +kernel)
theorem tw_163 : Cond.instanceMethod yX4_init ∈ gT := gT_t (List.mem_of_getElem? (i := 163) (by decide +kernel)) (by decide +kernel)
theorem tw_164 : Cond.code yX4_init cX4_init 1 none ∈ gT := gT_t (List.mem_of_getElem? (i := 164) (by decide +kernel)) (by decide +kernel)
theorem tw_177 : Cond.classLink RX9 (37 : Nat) RX6 ∈ gT := gT_t (List.mem_of_getElem? (i := 177) (by decide +kernel)) (by decide +kernel)
theorem tw_178 : Cond.instantiable RX6 (2 : Nat) ∈ gT := gT_t (List.mem_of_getElem? (i := 178) (by decide +kernel)) (by decide +kernel)
theorem tw_180 : Cond.instanceMethod yX6_init ∈ gT := gT_t (List.mem_of_getElem? (i := 180) (by decide +kernel)) (by decide +kernel)
theorem tw_181 : Cond.code yX6_init cX6_init 1 none ∈ gT := gT_t (List.mem_of_getElem? (i := 181) (by decide +kernel)) (by decide +kernel)
theorem tw_192 : Cond.classLink RX9 (57 : Nat) RX3 ∈ gT := gT_t (List.mem_of_getElem? (i := 192) (by decide +kernel)) (by decide +kernel)
theorem tw_193 : Cond.instantiable RX3 (9 : Nat) ∈ gT := gT_t (List.mem_of_getElem? (i := 193) (by decide +kernel)) (by decide +kernel)
theorem tw_195 : Cond.instanceMethod yX3_init ∈ gT := gT_t (List.mem_of_getElem? (i := 195) (by decide +kernel)) (by decide +kernel)
theorem tw_196 : Cond.code yX3_init cX3_init 1 none ∈ gT := gT_t (List.mem_of_getElem? (i := 196) (by decide +kernel)) (by decide +kernel)
theorem tw_240 : Cond.classLink RX9 (60 : Nat) RX8 ∈ gT := gT_t (List.mem_of_getElem? (i := 240) (by decide +kernel)) (by decide +kernel)
theorem tw_242 : Cond.methodLink RX9 (62 : Nat) yX8_init ∈ gT := gT_t (List.mem_of_getElem? (i := 242) (by decide +kernel)) (by decide +kernel)
theorem tw_250 : Cond.fieldLink RX8 (52 : Nat) "WonderParcels$World" "day" "I" ∈ gT := gT_t (List.mem_of_getElem? (i := 250) (by decide +kernel)) (by decide +kernel)
theorem tw_304 : Cond.classLink RX9 (72 : Nat) RX1 ∈ gT := gT_t (List.mem_of_getElem? (i := 304) (by decide +kernel)) (by decide +kernel)
theorem tw_305 : Cond.instantiable RX1 (3 : Nat) ∈ gT := gT_t (List.mem_of_getElem? (i := 305) (by decide +kernel)) (by decide +kernel)
theorem tw_306 : Cond.methodLink RX9 (74 : Nat) yX1_init ∈ gT := gT_t (List.mem_of_getElem? (i := 306) (by decide +kernel)) (by decide +kernel)
theorem tw_307 : Cond.instanceMethod yX1_init ∈ gT := gT_t (List.mem_of_getElem? (i := 307) (by decide +kernel)) (by decide +kernel)
theorem tw_308 : Cond.code yX1_init cX1_init 3 none ∈ gT := gT_t (List.mem_of_getElem? (i := 308) (by decide +kernel)) (by decide +kernel)
theorem tw_323 : Cond.classLink RX9 (79 : Nat) RX2 ∈ gT := gT_t (List.mem_of_getElem? (i := 323) (by decide +kernel)) (by decide +kernel)
theorem tw_325 : Cond.instantiable RX2 (3 : Nat) ∈ gT := gT_t (List.mem_of_getElem? (i := 325) (by decide +kernel)) (by decide +kernel)
theorem tw_326 : Cond.methodLink RX9 (81 : Nat) yX2_init ∈ gT := gT_t (List.mem_of_getElem? (i := 326) (by decide +kernel)) (by decide +kernel)
theorem tw_327 : Cond.instanceMethod yX2_init ∈ gT := gT_t (List.mem_of_getElem? (i := 327) (by decide +kernel)) (by decide +kernel)
theorem tw_328 : Cond.code yX2_init cX2_init 2 none ∈ gT := gT_t (List.mem_of_getElem? (i := 328) (by decide +kernel)) (by decide +kernel)
theorem tw_345 : Cond.methodLink RX9 (86 : Nat) yJ7_fill_53178 ∈ gT := gT_t (List.mem_of_getElem? (i := 345) (by decide +kernel)) (by decide +kernel)
theorem tw_346 : Cond.fieldLink RX9 (10 : Nat) "WonderParcels" "tape" "LWonderParcels$Tape;" ∈ gT := gT_t (List.mem_of_getElem? (i := 346) (by decide +kernel)) (by decide +kernel)
theorem tw_347 : Cond.fieldLink RX9 (65 : Nat) "WonderParcels" "world" "LWonderParcels$World;" ∈ gT := gT_t (List.mem_of_getElem? (i := 347) (by decide +kernel)) (by decide +kernel)
theorem tw_348 : Cond.fieldLink RX9 (69 : Nat) "WonderParcels" "trial" "LWonderParcels$World;" ∈ gT := gT_t (List.mem_of_getElem? (i := 348) (by decide +kernel)) (by decide +kernel)
theorem tw_349 : Cond.fieldLink RX9 (75 : Nat) "WonderParcels" "history" "LWonderParcels$History;" ∈ gT := gT_t (List.mem_of_getElem? (i := 349) (by decide +kernel)) (by decide +kernel)
theorem tw_350 : Cond.fieldLink RX9 (82 : Nat) "WonderParcels" "images" "[LWonderParcels$Image;" ∈ gT := gT_t (List.mem_of_getElem? (i := 350) (by decide +kernel)) (by decide +kernel)
theorem tw_352 : Cond.fieldLink RX9 (19 : Nat) "WonderParcels" "book" "LWonderParcels$Book;" ∈ gT := gT_t (List.mem_of_getElem? (i := 352) (by decide +kernel)) (by decide +kernel)
theorem tw_353 : Cond.fieldLink RX9 (23 : Nat) "WonderParcels" "bookTold" "[I" ∈ gT := gT_t (List.mem_of_getElem? (i := 353) (by decide +kernel)) (by decide +kernel)
theorem tw_354 : Cond.fieldLink RX9 (30 : Nat) "WonderParcels" "fewRooms" "LWonderParcels$Rooms;" ∈ gT := gT_t (List.mem_of_getElem? (i := 354) (by decide +kernel)) (by decide +kernel)
theorem tw_355 : Cond.fieldLink RX9 (34 : Nat) "WonderParcels" "seatsAtRest" "[I" ∈ gT := gT_t (List.mem_of_getElem? (i := 355) (by decide +kernel)) (by decide +kernel)
theorem tw_356 : Cond.fieldLink RX9 (40 : Nat) "WonderParcels" "latestTag" "LWonderParcels$Tag;" ∈ gT := gT_t (List.mem_of_getElem? (i := 356) (by decide +kernel)) (by decide +kernel)
theorem tw_357 : Cond.fieldLink RX9 (44 : Nat) "WonderParcels" "latestFault" "I" ∈ gT := gT_t (List.mem_of_getElem? (i := 357) (by decide +kernel)) (by decide +kernel)
theorem tw_358 : Cond.fieldLink RX9 (48 : Nat) "WonderParcels" "whoWouldSit" "I" ∈ gT := gT_t (List.mem_of_getElem? (i := 358) (by decide +kernel)) (by decide +kernel)
theorem tw_359 : Cond.fieldLink RX9 (51 : Nat) "WonderParcels" "whoSurely" "I" ∈ gT := gT_t (List.mem_of_getElem? (i := 359) (by decide +kernel)) (by decide +kernel)
theorem tw_360 : Cond.fieldLink RX9 (54 : Nat) "WonderParcels" "whomToAsk" "I" ∈ gT := gT_t (List.mem_of_getElem? (i := 360) (by decide +kernel)) (by decide +kernel)
theorem tw_424 : Cond.methodLink RX7 (50 : Nat) yX7_pass ∈ gT := gT_t (List.mem_of_getElem? (i := 424) (by decide +kernel)) (by decide +kernel)
theorem tw_425 : Cond.instanceMethod yX7_pass ∈ gT := gT_t (List.mem_of_getElem? (i := 425) (by decide +kernel)) (by decide +kernel)
theorem tw_426 : Cond.selects RX7 yX7_pass yX7_pass ∈ gT := gT_t (List.mem_of_getElem? (i := 426) (by decide +kernel)) (by decide +kernel)
theorem tw_427 : Cond.code yX7_pass cX7_pass 2 none ∈ gT := gT_t (List.mem_of_getElem? (i := 427) (by decide +kernel)) (by decide +kernel)
theorem tw_485 : Cond.methodLink RX8 (62 : Nat) yJ9_min_7cf53 ∈ gT := gT_t (List.mem_of_getElem? (i := 485) (by decide +kernel)) (by decide +kernel)
theorem tw_486 : Cond.static yJ9_min_7cf53 ∈ gT := gT_t (List.mem_of_getElem? (i := 486) (by decide +kernel)) (by decide +kernel)
theorem tw_487 : Cond.code yJ9_min_7cf53 cJ9_min_7cf53 2 (some .int) ∈ gT := gT_t (List.mem_of_getElem? (i := 487) (by decide +kernel)) (by decide +kernel)
theorem tw_488 : Cond.methodLink RX8 (68 : Nat) yJ9_max_7cf53 ∈ gT := gT_t (List.mem_of_getElem? (i := 488) (by decide +kernel)) (by decide +kernel)
theorem tw_489 : Cond.static yJ9_max_7cf53 ∈ gT := gT_t (List.mem_of_getElem? (i := 489) (by decide +kernel)) (by decide +kernel)
theorem tw_490 : Cond.code yJ9_max_7cf53 cJ9_max_7cf53 2 (some .int) ∈ gT := gT_t (List.mem_of_getElem? (i := 490) (by decide +kernel)) (by decide +kernel)
theorem tw_522 : Cond.instanceMethod yX8_takeFrom ∈ gT := gT_t (List.mem_of_getElem? (i := 522) (by decide +kernel)) (by decide +kernel)
theorem tw_523 : Cond.selects RX8 yX8_takeFrom yX8_takeFrom ∈ gT := gT_t (List.mem_of_getElem? (i := 523) (by decide +kernel)) (by decide +kernel)
theorem tw_524 : Cond.code yX8_takeFrom cX8_takeFrom 2 none ∈ gT := gT_t (List.mem_of_getElem? (i := 524) (by decide +kernel)) (by decide +kernel)
theorem tw_525 : Cond.methodLink RX8 (56 : Nat) (⟨"java/lang/System", "arraycopy", "(Ljava/lang/Object;ILjava/lang/Object;II)V"⟩ : MethodName) ∈ gT := gT_t (List.mem_of_getElem? (i := 525) (by decide +kernel)) (by decide +kernel)
theorem tw_526 : Cond.static (⟨RJ10, "arraycopy", "(Ljava/lang/Object;ILjava/lang/Object;II)V"⟩ : MethodName) ∈ gT := gT_t (List.mem_of_getElem? (i := 526) (by decide +kernel)) (by decide +kernel)
theorem tw_527 : Cond.native (⟨RJ10, "arraycopy", "(Ljava/lang/Object;ILjava/lang/Object;II)V"⟩ : MethodName) ∈ gT := gT_t (List.mem_of_getElem? (i := 527) (by decide +kernel)) (by decide +kernel)
theorem tw_610 : Cond.methodLink RX1 (27 : Nat) yX8_takeFrom ∈ gT := gT_t (List.mem_of_getElem? (i := 610) (by decide +kernel)) (by decide +kernel)
theorem tw_623 : Cond.methodLink RX1 (31 : Nat) yJ9_min_7cf53 ∈ gT := gT_t (List.mem_of_getElem? (i := 623) (by decide +kernel)) (by decide +kernel)
theorem tw_681 : Cond.methodLink RX8 (102 : Nat) yX8_daysLeft ∈ gT := gT_t (List.mem_of_getElem? (i := 681) (by decide +kernel)) (by decide +kernel)
theorem tw_682 : Cond.instanceMethod yX8_daysLeft ∈ gT := gT_t (List.mem_of_getElem? (i := 682) (by decide +kernel)) (by decide +kernel)
theorem tw_683 : Cond.selects RX8 yX8_daysLeft yX8_daysLeft ∈ gT := gT_t (List.mem_of_getElem? (i := 683) (by decide +kernel)) (by decide +kernel)
theorem tw_684 : Cond.code yX8_daysLeft cX8_daysLeft 1 (some .int) ∈ gT := gT_t (List.mem_of_getElem? (i := 684) (by decide +kernel)) (by decide +kernel)
theorem tw_685 : Cond.methodLink RX8 (106 : Nat) yX8_goDay ∈ gT := gT_t (List.mem_of_getElem? (i := 685) (by decide +kernel)) (by decide +kernel)
theorem tw_687 : Cond.instanceMethod yX8_goDay ∈ gT := gT_t (List.mem_of_getElem? (i := 687) (by decide +kernel)) (by decide +kernel)
theorem tw_688 : Cond.code yX8_goDay cX8_goDay 2 none ∈ gT := gT_t (List.mem_of_getElem? (i := 688) (by decide +kernel)) (by decide +kernel)
theorem tn_138 : Cond.methodLinkNest RX9 (18 : Nat) yX0_init "WonderParcels" ∈ nW := nW_t (List.mem_of_getElem? (i := 138) (by decide +kernel)) (by decide +kernel)
theorem tn_179 : Cond.methodLinkNest RX9 (39 : Nat) yX6_init "WonderParcels" ∈ nW := nW_t (List.mem_of_getElem? (i := 179) (by decide +kernel)) (by decide +kernel)
theorem tn_194 : Cond.methodLinkNest RX9 (59 : Nat) yX3_init "WonderParcels" ∈ nW := nW_t (List.mem_of_getElem? (i := 194) (by decide +kernel)) (by decide +kernel)
theorem tn_203 : Cond.fieldLinkNest RX8 (74 : Nat) "WonderParcels$Post" "many" "[I" "WonderParcels" ∈ nW := nW_t (List.mem_of_getElem? (i := 203) (by decide +kernel)) (by decide +kernel)
theorem ts_13 : Cond.selects RX8 yX8_goDay yX8_goDay ∈ gT := gT_s (by decide +kernel) (by decide +kernel)
theorem dX1_forget_0 : decode cX1_forget 0 = .ok (.aload_n 0, 1) := by decide +kernel
theorem dX1_forget_1 : decode cX1_forget 1 = .ok (.iconst 0, 1) := by decide +kernel
theorem dX1_forget_2 : decode cX1_forget 2 = .ok (.putfield 21, 3) := by decide +kernel
theorem dX1_forget_5 : decode cX1_forget 5 = .ok (.return_, 1) := by decide +kernel
theorem dX1_giveBack_0 : decode cX1_giveBack 0 = .ok (.aload_n 0, 1) := by decide +kernel
theorem dX1_giveBack_1 : decode cX1_giveBack 1 = .ok (.getfield 21, 3) := by decide +kernel
theorem dX1_giveBack_4 : decode cX1_giveBack 4 = .ok (.ifCond .ne 5, 3) := by decide +kernel
theorem dX1_giveBack_7 : decode cX1_giveBack 7 = .ok (.iconst (-1), 1) := by decide +kernel
theorem dX1_giveBack_8 : decode cX1_giveBack 8 = .ok (.ireturn, 1) := by decide +kernel
theorem dX1_keep_0 : decode cX1_keep 0 = .ok (.aload_n 0, 1) := by decide +kernel
theorem dX1_keep_1 : decode cX1_keep 1 = .ok (.aload_n 0, 1) := by decide +kernel
theorem dX1_keep_2 : decode cX1_keep 2 = .ok (.getfield 17, 3) := by decide +kernel
theorem dX1_keep_5 : decode cX1_keep 5 = .ok (.iconst 1, 1) := by decide +kernel
theorem dX1_keep_6 : decode cX1_keep 6 = .ok (.iadd, 1) := by decide +kernel
theorem dX1_keep_7 : decode cX1_keep 7 = .ok (.bipush 9, 2) := by decide +kernel
theorem dX1_keep_9 : decode cX1_keep 9 = .ok (.irem, 1) := by decide +kernel
theorem dX1_keep_10 : decode cX1_keep 10 = .ok (.putfield 17, 3) := by decide +kernel
theorem dX1_keep_13 : decode cX1_keep 13 = .ok (.aload_n 0, 1) := by decide +kernel
theorem dX1_keep_14 : decode cX1_keep 14 = .ok (.bipush 8, 2) := by decide +kernel
theorem dX1_keep_16 : decode cX1_keep 16 = .ok (.aload_n 0, 1) := by decide +kernel
theorem dX1_keep_17 : decode cX1_keep 17 = .ok (.getfield 21, 3) := by decide +kernel
theorem dX1_keep_20 : decode cX1_keep 20 = .ok (.iconst 1, 1) := by decide +kernel
theorem dX1_keep_21 : decode cX1_keep 21 = .ok (.iadd, 1) := by decide +kernel
theorem dX1_keep_22 : decode cX1_keep 22 = .ok (.invokestatic 31, 3) := by decide +kernel
theorem dX1_keep_25 : decode cX1_keep 25 = .ok (.putfield 21, 3) := by decide +kernel
theorem dX1_keep_28 : decode cX1_keep 28 = .ok (.return_, 1) := by decide +kernel
theorem dX1_prepare_0 : decode cX1_prepare 0 = .ok (.aload_n 0, 1) := by decide +kernel
theorem dX1_prepare_1 : decode cX1_prepare 1 = .ok (.getfield 13, 3) := by decide +kernel
theorem dX1_prepare_4 : decode cX1_prepare 4 = .ok (.aload_n 0, 1) := by decide +kernel
theorem dX1_prepare_5 : decode cX1_prepare 5 = .ok (.getfield 17, 3) := by decide +kernel
theorem dX1_prepare_8 : decode cX1_prepare 8 = .ok (.aaload, 1) := by decide +kernel
theorem dX1_prepare_9 : decode cX1_prepare 9 = .ok (.aload_n 1, 1) := by decide +kernel
theorem dX1_prepare_10 : decode cX1_prepare 10 = .ok (.invokevirtual 27, 3) := by decide +kernel
theorem dX1_prepare_13 : decode cX1_prepare 13 = .ok (.return_, 1) := by decide +kernel
theorem dX7_at_0 : decode cX7_at 0 = .ok (.iload_n 1, 1) := by decide +kernel
theorem dX7_at_1 : decode cX7_at 1 = .ok (.ifCond .lt 24, 3) := by decide +kernel
theorem dX7_at_4 : decode cX7_at 4 = .ok (.iload_n 1, 1) := by decide +kernel
theorem dX7_at_5 : decode cX7_at 5 = .ok (.aload_n 0, 1) := by decide +kernel
theorem dX7_at_6 : decode cX7_at 6 = .ok (.getfield 19, 3) := by decide +kernel
theorem dX7_at_9 : decode cX7_at 9 = .ok (.if_icmp .ge 16, 3) := by decide +kernel
theorem dX7_at_25 : decode cX7_at 25 = .ok (.iconst (-1), 1) := by decide +kernel
theorem dX7_at_26 : decode cX7_at 26 = .ok (.ireturn, 1) := by decide +kernel
theorem dX7_goesOn_0 : decode cX7_goesOn 0 = .ok (.aload_n 0, 1) := by decide +kernel
theorem dX7_goesOn_1 : decode cX7_goesOn 1 = .ok (.getfield 53, 3) := by decide +kernel
theorem dX7_goesOn_4 : decode cX7_goesOn 4 = .ok (.ifCond .ne 15, 3) := by decide +kernel
theorem dX7_goesOn_7 : decode cX7_goesOn 7 = .ok (.aload_n 0, 1) := by decide +kernel
theorem dX7_goesOn_8 : decode cX7_goesOn 8 = .ok (.getfield 34, 3) := by decide +kernel
theorem dX7_goesOn_11 : decode cX7_goesOn 11 = .ok (.ifCond .eq 8, 3) := by decide +kernel
theorem dX7_goesOn_19 : decode cX7_goesOn 19 = .ok (.aload_n 0, 1) := by decide +kernel
theorem dX7_goesOn_20 : decode cX7_goesOn 20 = .ok (.getfield 44, 3) := by decide +kernel
theorem dX7_goesOn_23 : decode cX7_goesOn 23 = .ok (.ifCond .ne 14, 3) := by decide +kernel
theorem dX7_goesOn_26 : decode cX7_goesOn 26 = .ok (.aload_n 0, 1) := by decide +kernel
theorem dX7_goesOn_27 : decode cX7_goesOn 27 = .ok (.getfield 53, 3) := by decide +kernel
theorem dX7_goesOn_30 : decode cX7_goesOn 30 = .ok (.ifCond .eq 7, 3) := by decide +kernel
theorem dX7_goesOn_37 : decode cX7_goesOn 37 = .ok (.iconst 0, 1) := by decide +kernel
theorem dX7_goesOn_38 : decode cX7_goesOn 38 = .ok (.ireturn, 1) := by decide +kernel
theorem dX7_hasPlaceForTwenty_0 : decode cX7_hasPlaceForTwenty 0 = .ok (.aload_n 0, 1) := by decide +kernel
theorem dX7_hasPlaceForTwenty_1 : decode cX7_hasPlaceForTwenty 1 = .ok (.getfield 19, 3) := by decide +kernel
theorem dX7_hasPlaceForTwenty_4 : decode cX7_hasPlaceForTwenty 4 = .ok (.bipush 20, 2) := by decide +kernel
theorem dX7_hasPlaceForTwenty_6 : decode cX7_hasPlaceForTwenty 6 = .ok (.iadd, 1) := by decide +kernel
theorem dX7_hasPlaceForTwenty_7 : decode cX7_hasPlaceForTwenty 7 = .ok (.aload_n 0, 1) := by decide +kernel
theorem dX7_hasPlaceForTwenty_8 : decode cX7_hasPlaceForTwenty 8 = .ok (.getfield 11, 3) := by decide +kernel
theorem dX7_hasPlaceForTwenty_11 : decode cX7_hasPlaceForTwenty 11 = .ok (.arraylength, 1) := by decide +kernel
theorem dX7_hasPlaceForTwenty_12 : decode cX7_hasPlaceForTwenty 12 = .ok (.if_icmp .gt 7, 3) := by decide +kernel
theorem dX7_hasPlaceForTwenty_15 : decode cX7_hasPlaceForTwenty 15 = .ok (.iconst 1, 1) := by decide +kernel
theorem dX7_hasPlaceForTwenty_16 : decode cX7_hasPlaceForTwenty 16 = .ok (.goto 4, 3) := by decide +kernel
theorem dX7_hasPlaceForTwenty_20 : decode cX7_hasPlaceForTwenty 20 = .ok (.ireturn, 1) := by decide +kernel
theorem dX7_pass_0 : decode cX7_pass 0 = .ok (.aload_n 0, 1) := by decide +kernel
theorem dX7_pass_1 : decode cX7_pass 1 = .ok (.getfield 44, 3) := by decide +kernel
theorem dX7_pass_4 : decode cX7_pass 4 = .ok (.ifCond .eq 4, 3) := by decide +kernel
theorem dX7_pass_8 : decode cX7_pass 8 = .ok (.aload_n 0, 1) := by decide +kernel
theorem dX7_pass_9 : decode cX7_pass 9 = .ok (.aload_n 0, 1) := by decide +kernel
theorem dX7_pass_10 : decode cX7_pass 10 = .ok (.getfield 41, 3) := by decide +kernel
theorem dX7_pass_13 : decode cX7_pass 13 = .ok (.putfield 60, 3) := by decide +kernel
theorem dX7_pass_16 : decode cX7_pass 16 = .ok (.aload_n 0, 1) := by decide +kernel
theorem dX7_pass_17 : decode cX7_pass 17 = .ok (.getfield 60, 3) := by decide +kernel
theorem dX7_pass_20 : decode cX7_pass 20 = .ok (.aload_n 0, 1) := by decide +kernel
theorem dX7_pass_21 : decode cX7_pass 21 = .ok (.getfield 38, 3) := by decide +kernel
theorem dX7_pass_24 : decode cX7_pass 24 = .ok (.if_icmp .ge 31, 3) := by decide +kernel
theorem dX7_pass_55 : decode cX7_pass 55 = .ok (.aload_n 0, 1) := by decide +kernel
theorem dX7_pass_56 : decode cX7_pass 56 = .ok (.getfield 60, 3) := by decide +kernel
theorem dX7_pass_59 : decode cX7_pass 59 = .ok (.aload_n 0, 1) := by decide +kernel
theorem dX7_pass_60 : decode cX7_pass 60 = .ok (.getfield 38, 3) := by decide +kernel
theorem dX7_pass_63 : decode cX7_pass 63 = .ok (.if_icmp .lt 17, 3) := by decide +kernel
theorem dX7_pass_66 : decode cX7_pass 66 = .ok (.aload_n 0, 1) := by decide +kernel
theorem dX7_pass_67 : decode cX7_pass 67 = .ok (.aload_n 0, 1) := by decide +kernel
theorem dX7_pass_68 : decode cX7_pass 68 = .ok (.getfield 38, 3) := by decide +kernel
theorem dX7_pass_71 : decode cX7_pass 71 = .ok (.putfield 60, 3) := by decide +kernel
theorem dX7_pass_74 : decode cX7_pass 74 = .ok (.aload_n 0, 1) := by decide +kernel
theorem dX7_pass_75 : decode cX7_pass 75 = .ok (.iconst 0, 1) := by decide +kernel
theorem dX7_pass_76 : decode cX7_pass 76 = .ok (.putfield 53, 3) := by decide +kernel
theorem dX7_pass_79 : decode cX7_pass 79 = .ok (.return_, 1) := by decide +kernel
theorem dX7_putFour_0 : decode cX7_putFour 0 = .ok (.bipush 24, 2) := by decide +kernel
theorem dX7_putFour_2 : decode cX7_putFour 2 = .ok (.istore_n 2, 1) := by decide +kernel
theorem dX7_putFour_3 : decode cX7_putFour 3 = .ok (.iload_n 2, 1) := by decide +kernel
theorem dX7_putFour_4 : decode cX7_putFour 4 = .ok (.ifCond .lt 44, 3) := by decide +kernel
theorem dX7_putFour_7 : decode cX7_putFour 7 = .ok (.aload_n 0, 1) := by decide +kernel
theorem dX7_putFour_8 : decode cX7_putFour 8 = .ok (.getfield 19, 3) := by decide +kernel
theorem dX7_putFour_11 : decode cX7_putFour 11 = .ok (.aload_n 0, 1) := by decide +kernel
theorem dX7_putFour_12 : decode cX7_putFour 12 = .ok (.getfield 11, 3) := by decide +kernel
theorem dX7_putFour_15 : decode cX7_putFour 15 = .ok (.arraylength, 1) := by decide +kernel
theorem dX7_putFour_16 : decode cX7_putFour 16 = .ok (.if_icmp .ge 32, 3) := by decide +kernel
theorem dX7_putFour_19 : decode cX7_putFour 19 = .ok (.aload_n 0, 1) := by decide +kernel
theorem dX7_putFour_20 : decode cX7_putFour 20 = .ok (.getfield 11, 3) := by decide +kernel
theorem dX7_putFour_23 : decode cX7_putFour 23 = .ok (.aload_n 0, 1) := by decide +kernel
theorem dX7_putFour_24 : decode cX7_putFour 24 = .ok (.getfield 19, 3) := by decide +kernel
theorem dX7_putFour_27 : decode cX7_putFour 27 = .ok (.iload_n 1, 1) := by decide +kernel
theorem dX7_putFour_28 : decode cX7_putFour 28 = .ok (.iload_n 2, 1) := by decide +kernel
theorem dX7_putFour_29 : decode cX7_putFour 29 = .ok (.iushr, 1) := by decide +kernel
theorem dX7_putFour_30 : decode cX7_putFour 30 = .ok (.i2b, 1) := by decide +kernel
theorem dX7_putFour_31 : decode cX7_putFour 31 = .ok (.bastore, 1) := by decide +kernel
theorem dX7_putFour_32 : decode cX7_putFour 32 = .ok (.aload_n 0, 1) := by decide +kernel
theorem dX7_putFour_33 : decode cX7_putFour 33 = .ok (.dup, 1) := by decide +kernel
theorem dX7_putFour_34 : decode cX7_putFour 34 = .ok (.getfield 19, 3) := by decide +kernel
theorem dX7_putFour_37 : decode cX7_putFour 37 = .ok (.iconst 1, 1) := by decide +kernel
theorem dX7_putFour_38 : decode cX7_putFour 38 = .ok (.iadd, 1) := by decide +kernel
theorem dX7_putFour_39 : decode cX7_putFour 39 = .ok (.putfield 19, 3) := by decide +kernel
theorem dX7_putFour_42 : decode cX7_putFour 42 = .ok (.iinc 2 (-8), 3) := by decide +kernel
theorem dX7_putFour_45 : decode cX7_putFour 45 = .ok (.goto (-42), 3) := by decide +kernel
theorem dX7_putFour_48 : decode cX7_putFour 48 = .ok (.return_, 1) := by decide +kernel
theorem dX7_refuse_0 : decode cX7_refuse 0 = .ok (.aload_n 0, 1) := by decide +kernel
theorem dX7_refuse_1 : decode cX7_refuse 1 = .ok (.getfield 44, 3) := by decide +kernel
theorem dX7_refuse_4 : decode cX7_refuse 4 = .ok (.ifCond .ne 16, 3) := by decide +kernel
theorem dX7_refuse_7 : decode cX7_refuse 7 = .ok (.aload_n 0, 1) := by decide +kernel
theorem dX7_refuse_8 : decode cX7_refuse 8 = .ok (.iload_n 1, 1) := by decide +kernel
theorem dX7_refuse_9 : decode cX7_refuse 9 = .ok (.putfield 44, 3) := by decide +kernel
theorem dX7_refuse_12 : decode cX7_refuse 12 = .ok (.aload_n 0, 1) := by decide +kernel
theorem dX7_refuse_13 : decode cX7_refuse 13 = .ok (.aload_n 0, 1) := by decide +kernel
theorem dX7_refuse_14 : decode cX7_refuse 14 = .ok (.getfield 60, 3) := by decide +kernel
theorem dX7_refuse_17 : decode cX7_refuse 17 = .ok (.putfield 47, 3) := by decide +kernel
theorem dX7_refuse_20 : decode cX7_refuse 20 = .ok (.return_, 1) := by decide +kernel
theorem dX7_sees_0 : decode cX7_sees 0 = .ok (.aload_n 0, 1) := by decide +kernel
theorem dX7_sees_1 : decode cX7_sees 1 = .ok (.getfield 44, 3) := by decide +kernel
theorem dX7_sees_4 : decode cX7_sees 4 = .ok (.ifCond .ne 15, 3) := by decide +kernel
theorem dX7_sees_19 : decode cX7_sees 19 = .ok (.iconst 0, 1) := by decide +kernel
theorem dX7_sees_20 : decode cX7_sees 20 = .ok (.ireturn, 1) := by decide +kernel
theorem dX7_startText_0 : decode cX7_startText 0 = .ok (.aload_n 0, 1) := by decide +kernel
theorem dX7_startText_1 : decode cX7_startText 1 = .ok (.aload_n 0, 1) := by decide +kernel
theorem dX7_startText_2 : decode cX7_startText 2 = .ok (.getfield 19, 3) := by decide +kernel
theorem dX7_startText_5 : decode cX7_startText 5 = .ok (.iload_n 1, 1) := by decide +kernel
theorem dX7_startText_6 : decode cX7_startText 6 = .ok (.if_icmp .le 7, 3) := by decide +kernel
theorem dX7_startText_13 : decode cX7_startText 13 = .ok (.iconst 0, 1) := by decide +kernel
theorem dX7_startText_14 : decode cX7_startText 14 = .ok (.putfield 34, 3) := by decide +kernel
theorem dX7_startText_17 : decode cX7_startText 17 = .ok (.aload_n 0, 1) := by decide +kernel
theorem dX7_startText_18 : decode cX7_startText 18 = .ok (.aload_n 0, 1) := by decide +kernel
theorem dX7_startText_19 : decode cX7_startText 19 = .ok (.getfield 34, 3) := by decide +kernel
theorem dX7_startText_22 : decode cX7_startText 22 = .ok (.ifCond .eq 7, 3) := by decide +kernel
theorem dX7_startText_29 : decode cX7_startText 29 = .ok (.aload_n 0, 1) := by decide +kernel
theorem dX7_startText_30 : decode cX7_startText 30 = .ok (.getfield 19, 3) := by decide +kernel
theorem dX7_startText_33 : decode cX7_startText 33 = .ok (.putfield 38, 3) := by decide +kernel
theorem dX7_startText_36 : decode cX7_startText 36 = .ok (.aload_n 0, 1) := by decide +kernel
theorem dX7_startText_37 : decode cX7_startText 37 = .ok (.iconst 0, 1) := by decide +kernel
theorem dX7_startText_38 : decode cX7_startText 38 = .ok (.putfield 41, 3) := by decide +kernel
theorem dX7_startText_41 : decode cX7_startText 41 = .ok (.aload_n 0, 1) := by decide +kernel
theorem dX7_startText_42 : decode cX7_startText 42 = .ok (.iconst 0, 1) := by decide +kernel
theorem dX7_startText_43 : decode cX7_startText 43 = .ok (.putfield 44, 3) := by decide +kernel
theorem dX7_startText_46 : decode cX7_startText 46 = .ok (.aload_n 0, 1) := by decide +kernel
theorem dX7_startText_47 : decode cX7_startText 47 = .ok (.iconst 0, 1) := by decide +kernel
theorem dX7_startText_48 : decode cX7_startText 48 = .ok (.putfield 47, 3) := by decide +kernel
theorem dX7_startText_51 : decode cX7_startText 51 = .ok (.aload_n 0, 1) := by decide +kernel
theorem dX7_startText_52 : decode cX7_startText 52 = .ok (.invokevirtual 50, 3) := by decide +kernel
theorem dX7_startText_55 : decode cX7_startText 55 = .ok (.return_, 1) := by decide +kernel
theorem dX8_allThatAllHave_0 : decode cX8_allThatAllHave 0 = .ok (.iconst 0, 1) := by decide +kernel
theorem dX8_allThatAllHave_1 : decode cX8_allThatAllHave 1 = .ok (.istore_n 1, 1) := by decide +kernel
theorem dX8_allThatAllHave_2 : decode cX8_allThatAllHave 2 = .ok (.iconst 0, 1) := by decide +kernel
theorem dX8_allThatAllHave_3 : decode cX8_allThatAllHave 3 = .ok (.istore_n 2, 1) := by decide +kernel
theorem dX8_allThatAllHave_4 : decode cX8_allThatAllHave 4 = .ok (.iload_n 2, 1) := by decide +kernel
theorem dX8_allThatAllHave_5 : decode cX8_allThatAllHave 5 = .ok (.aload_n 0, 1) := by decide +kernel
theorem dX8_allThatAllHave_6 : decode cX8_allThatAllHave 6 = .ok (.getfield 42, 3) := by decide +kernel
theorem dX8_allThatAllHave_9 : decode cX8_allThatAllHave 9 = .ok (.getfield 74, 3) := by decide +kernel
theorem dX8_allThatAllHave_12 : decode cX8_allThatAllHave 12 = .ok (.iconst 2, 1) := by decide +kernel
theorem dX8_allThatAllHave_13 : decode cX8_allThatAllHave 13 = .ok (.iaload, 1) := by decide +kernel
theorem dX8_allThatAllHave_14 : decode cX8_allThatAllHave 14 = .ok (.if_icmp .ge 17, 3) := by decide +kernel
theorem dX8_allThatAllHave_31 : decode cX8_allThatAllHave 31 = .ok (.iload_n 1, 1) := by decide +kernel
theorem dX8_allThatAllHave_32 : decode cX8_allThatAllHave 32 = .ok (.ireturn, 1) := by decide +kernel
theorem dX8_begin_0 : decode cX8_begin 0 = .ok (.aload_n 0, 1) := by decide +kernel
theorem dX8_begin_1 : decode cX8_begin 1 = .ok (.aload_n 1, 1) := by decide +kernel
theorem dX8_begin_2 : decode cX8_begin 2 = .ok (.putfield 42, 3) := by decide +kernel
theorem dX8_begin_5 : decode cX8_begin 5 = .ok (.aload_n 0, 1) := by decide +kernel
theorem dX8_begin_6 : decode cX8_begin 6 = .ok (.iconst 0, 1) := by decide +kernel
theorem dX8_begin_7 : decode cX8_begin 7 = .ok (.putfield 52, 3) := by decide +kernel
theorem dX8_begin_10 : decode cX8_begin 10 = .ok (.aload_n 0, 1) := by decide +kernel
theorem dX8_begin_11 : decode cX8_begin 11 = .ok (.getfield 9, 3) := by decide +kernel
theorem dX8_begin_14 : decode cX8_begin 14 = .ok (.iconst 0, 1) := by decide +kernel
theorem dX8_begin_15 : decode cX8_begin 15 = .ok (.invokestatic 46, 3) := by decide +kernel
theorem dX8_begin_18 : decode cX8_begin 18 = .ok (.aload_n 0, 1) := by decide +kernel
theorem dX8_begin_19 : decode cX8_begin 19 = .ok (.getfield 15, 3) := by decide +kernel
theorem dX8_begin_22 : decode cX8_begin 22 = .ok (.iconst 0, 1) := by decide +kernel
theorem dX8_begin_23 : decode cX8_begin 23 = .ok (.invokestatic 46, 3) := by decide +kernel
theorem dX8_begin_26 : decode cX8_begin 26 = .ok (.aload_n 0, 1) := by decide +kernel
theorem dX8_begin_27 : decode cX8_begin 27 = .ok (.getfield 18, 3) := by decide +kernel
theorem dX8_begin_30 : decode cX8_begin 30 = .ok (.iconst 0, 1) := by decide +kernel
theorem dX8_begin_31 : decode cX8_begin 31 = .ok (.invokestatic 46, 3) := by decide +kernel
theorem dX8_begin_34 : decode cX8_begin 34 = .ok (.aload_n 0, 1) := by decide +kernel
theorem dX8_begin_35 : decode cX8_begin 35 = .ok (.getfield 21, 3) := by decide +kernel
theorem dX8_begin_38 : decode cX8_begin 38 = .ok (.iconst 0, 1) := by decide +kernel
theorem dX8_begin_39 : decode cX8_begin 39 = .ok (.invokestatic 46, 3) := by decide +kernel
theorem dX8_begin_42 : decode cX8_begin 42 = .ok (.aload_n 0, 1) := by decide +kernel
theorem dX8_begin_43 : decode cX8_begin 43 = .ok (.getfield 24, 3) := by decide +kernel
theorem dX8_begin_46 : decode cX8_begin 46 = .ok (.iconst 0, 1) := by decide +kernel
theorem dX8_begin_47 : decode cX8_begin 47 = .ok (.invokestatic 46, 3) := by decide +kernel
theorem dX8_begin_50 : decode cX8_begin 50 = .ok (.aload_n 0, 1) := by decide +kernel
theorem dX8_begin_51 : decode cX8_begin 51 = .ok (.getfield 27, 3) := by decide +kernel
theorem dX8_begin_54 : decode cX8_begin 54 = .ok (.iconst 0, 1) := by decide +kernel
theorem dX8_begin_55 : decode cX8_begin 55 = .ok (.invokestatic 46, 3) := by decide +kernel
theorem dX8_begin_58 : decode cX8_begin 58 = .ok (.aload_n 0, 1) := by decide +kernel
theorem dX8_begin_59 : decode cX8_begin 59 = .ok (.getfield 30, 3) := by decide +kernel
theorem dX8_begin_62 : decode cX8_begin 62 = .ok (.iconst (-1), 1) := by decide +kernel
theorem dX8_begin_63 : decode cX8_begin 63 = .ok (.invokestatic 46, 3) := by decide +kernel
theorem dX8_begin_66 : decode cX8_begin 66 = .ok (.aload_n 0, 1) := by decide +kernel
theorem dX8_begin_67 : decode cX8_begin 67 = .ok (.getfield 33, 3) := by decide +kernel
theorem dX8_begin_70 : decode cX8_begin 70 = .ok (.iconst 0, 1) := by decide +kernel
theorem dX8_begin_71 : decode cX8_begin 71 = .ok (.invokestatic 46, 3) := by decide +kernel
theorem dX8_begin_74 : decode cX8_begin 74 = .ok (.aload_n 0, 1) := by decide +kernel
theorem dX8_begin_75 : decode cX8_begin 75 = .ok (.getfield 36, 3) := by decide +kernel
theorem dX8_begin_78 : decode cX8_begin 78 = .ok (.iconst 0, 1) := by decide +kernel
theorem dX8_begin_79 : decode cX8_begin 79 = .ok (.invokestatic 46, 3) := by decide +kernel
theorem dX8_begin_82 : decode cX8_begin 82 = .ok (.return_, 1) := by decide +kernel
theorem dX8_daysLeft_0 : decode cX8_daysLeft 0 = .ok (.iconst 0, 1) := by decide +kernel
theorem dX8_daysLeft_1 : decode cX8_daysLeft 1 = .ok (.sipush 400, 3) := by decide +kernel
theorem dX8_daysLeft_4 : decode cX8_daysLeft 4 = .ok (.aload_n 0, 1) := by decide +kernel
theorem dX8_daysLeft_5 : decode cX8_daysLeft 5 = .ok (.getfield 52, 3) := by decide +kernel
theorem dX8_daysLeft_8 : decode cX8_daysLeft 8 = .ok (.isub, 1) := by decide +kernel
theorem dX8_daysLeft_9 : decode cX8_daysLeft 9 = .ok (.invokestatic 68, 3) := by decide +kernel
theorem dX8_daysLeft_12 : decode cX8_daysLeft 12 = .ok (.ireturn, 1) := by decide +kernel
theorem dX8_goDay_0 : decode cX8_goDay 0 = .ok (.iconst 0, 1) := by decide +kernel
theorem dX8_goDay_1 : decode cX8_goDay 1 = .ok (.istore_n 1, 1) := by decide +kernel
theorem dX8_goDay_2 : decode cX8_goDay 2 = .ok (.iload_n 1, 1) := by decide +kernel
theorem dX8_goDay_3 : decode cX8_goDay 3 = .ok (.aload_n 0, 1) := by decide +kernel
theorem dX8_goDay_4 : decode cX8_goDay 4 = .ok (.getfield 42, 3) := by decide +kernel
theorem dX8_goDay_7 : decode cX8_goDay 7 = .ok (.getfield 74, 3) := by decide +kernel
theorem dX8_goDay_10 : decode cX8_goDay 10 = .ok (.iconst 2, 1) := by decide +kernel
theorem dX8_goDay_11 : decode cX8_goDay 11 = .ok (.iaload, 1) := by decide +kernel
theorem dX8_goDay_12 : decode cX8_goDay 12 = .ok (.if_icmp .ge 22, 3) := by decide +kernel
theorem dX8_goDay_34 : decode cX8_goDay 34 = .ok (.aload_n 0, 1) := by decide +kernel
theorem dX8_goDay_35 : decode cX8_goDay 35 = .ok (.dup, 1) := by decide +kernel
theorem dX8_goDay_36 : decode cX8_goDay 36 = .ok (.getfield 52, 3) := by decide +kernel
theorem dX8_goDay_39 : decode cX8_goDay 39 = .ok (.iconst 1, 1) := by decide +kernel
theorem dX8_goDay_40 : decode cX8_goDay 40 = .ok (.iadd, 1) := by decide +kernel
theorem dX8_goDay_41 : decode cX8_goDay 41 = .ok (.putfield 52, 3) := by decide +kernel
theorem dX8_goDay_44 : decode cX8_goDay 44 = .ok (.return_, 1) := by decide +kernel
theorem dX8_goDays_0 : decode cX8_goDays 0 = .ok (.iload_n 1, 1) := by decide +kernel
theorem dX8_goDays_1 : decode cX8_goDays 1 = .ok (.aload_n 0, 1) := by decide +kernel
theorem dX8_goDays_2 : decode cX8_goDays 2 = .ok (.invokevirtual 102, 3) := by decide +kernel
theorem dX8_goDays_5 : decode cX8_goDays 5 = .ok (.invokestatic 62, 3) := by decide +kernel
theorem dX8_goDays_8 : decode cX8_goDays 8 = .ok (.istore_n 2, 1) := by decide +kernel
theorem dX8_goDays_9 : decode cX8_goDays 9 = .ok (.iconst 0, 1) := by decide +kernel
theorem dX8_goDays_10 : decode cX8_goDays 10 = .ok (.istore_n 3, 1) := by decide +kernel
theorem dX8_goDays_11 : decode cX8_goDays 11 = .ok (.iload_n 3, 1) := by decide +kernel
theorem dX8_goDays_12 : decode cX8_goDays 12 = .ok (.iload_n 2, 1) := by decide +kernel
theorem dX8_goDays_13 : decode cX8_goDays 13 = .ok (.if_icmp .ge 13, 3) := by decide +kernel
theorem dX8_goDays_16 : decode cX8_goDays 16 = .ok (.aload_n 0, 1) := by decide +kernel
theorem dX8_goDays_17 : decode cX8_goDays 17 = .ok (.invokevirtual 106, 3) := by decide +kernel
theorem dX8_goDays_20 : decode cX8_goDays 20 = .ok (.iinc 3 1, 3) := by decide +kernel
theorem dX8_goDays_23 : decode cX8_goDays 23 = .ok (.goto (-12), 3) := by decide +kernel
theorem dX8_goDays_26 : decode cX8_goDays 26 = .ok (.iload_n 2, 1) := by decide +kernel
theorem dX8_goDays_27 : decode cX8_goDays 27 = .ok (.ireturn, 1) := by decide +kernel
theorem dX8_settleAll_0 : decode cX8_settleAll 0 = .ok (.iconst 1, 1) := by decide +kernel
theorem dX8_settleAll_1 : decode cX8_settleAll 1 = .ok (.istore_n 1, 1) := by decide +kernel
theorem dX8_settleAll_2 : decode cX8_settleAll 2 = .ok (.iconst 0, 1) := by decide +kernel
theorem dX8_settleAll_3 : decode cX8_settleAll 3 = .ok (.istore_n 2, 1) := by decide +kernel
theorem dX8_settleAll_4 : decode cX8_settleAll 4 = .ok (.iload_n 1, 1) := by decide +kernel
theorem dX8_settleAll_5 : decode cX8_settleAll 5 = .ok (.ifCond .eq 70, 3) := by decide +kernel
theorem dX8_settleAll_8 : decode cX8_settleAll 8 = .ok (.iload_n 2, 1) := by decide +kernel
theorem dX8_settleAll_9 : decode cX8_settleAll 9 = .ok (.bipush 10, 2) := by decide +kernel
theorem dX8_settleAll_11 : decode cX8_settleAll 11 = .ok (.if_icmp .ge 64, 3) := by decide +kernel
theorem dX8_settleAll_14 : decode cX8_settleAll 14 = .ok (.iconst 0, 1) := by decide +kernel
theorem dX8_settleAll_15 : decode cX8_settleAll 15 = .ok (.istore_n 1, 1) := by decide +kernel
theorem dX8_settleAll_16 : decode cX8_settleAll 16 = .ok (.iconst 0, 1) := by decide +kernel
theorem dX8_settleAll_17 : decode cX8_settleAll 17 = .ok (.istore_n 3, 1) := by decide +kernel
theorem dX8_settleAll_18 : decode cX8_settleAll 18 = .ok (.iload_n 3, 1) := by decide +kernel
theorem dX8_settleAll_19 : decode cX8_settleAll 19 = .ok (.aload_n 0, 1) := by decide +kernel
theorem dX8_settleAll_20 : decode cX8_settleAll 20 = .ok (.getfield 42, 3) := by decide +kernel
theorem dX8_settleAll_23 : decode cX8_settleAll 23 = .ok (.getfield 74, 3) := by decide +kernel
theorem dX8_settleAll_26 : decode cX8_settleAll 26 = .ok (.iconst 3, 1) := by decide +kernel
theorem dX8_settleAll_27 : decode cX8_settleAll 27 = .ok (.iaload, 1) := by decide +kernel
theorem dX8_settleAll_28 : decode cX8_settleAll 28 = .ok (.if_icmp .ge 41, 3) := by decide +kernel
theorem dX8_settleAll_69 : decode cX8_settleAll 69 = .ok (.iinc 2 1, 3) := by decide +kernel
theorem dX8_settleAll_72 : decode cX8_settleAll 72 = .ok (.goto (-68), 3) := by decide +kernel
theorem dX8_settleAll_75 : decode cX8_settleAll 75 = .ok (.iload_n 2, 1) := by decide +kernel
theorem dX8_settleAll_76 : decode cX8_settleAll 76 = .ok (.ireturn, 1) := by decide +kernel
theorem dX8_sumOfParcels_0 : decode cX8_sumOfParcels 0 = .ok (.iconst 0, 1) := by decide +kernel
theorem dX8_sumOfParcels_1 : decode cX8_sumOfParcels 1 = .ok (.istore_n 2, 1) := by decide +kernel
theorem dX8_sumOfParcels_2 : decode cX8_sumOfParcels 2 = .ok (.iconst 0, 1) := by decide +kernel
theorem dX8_sumOfParcels_3 : decode cX8_sumOfParcels 3 = .ok (.istore_n 3, 1) := by decide +kernel
theorem dX8_sumOfParcels_4 : decode cX8_sumOfParcels 4 = .ok (.iload_n 3, 1) := by decide +kernel
theorem dX8_sumOfParcels_5 : decode cX8_sumOfParcels 5 = .ok (.aload_n 0, 1) := by decide +kernel
theorem dX8_sumOfParcels_6 : decode cX8_sumOfParcels 6 = .ok (.getfield 42, 3) := by decide +kernel
theorem dX8_sumOfParcels_9 : decode cX8_sumOfParcels 9 = .ok (.getfield 74, 3) := by decide +kernel
theorem dX8_sumOfParcels_12 : decode cX8_sumOfParcels 12 = .ok (.iconst 2, 1) := by decide +kernel
theorem dX8_sumOfParcels_13 : decode cX8_sumOfParcels 13 = .ok (.iaload, 1) := by decide +kernel
theorem dX8_sumOfParcels_14 : decode cX8_sumOfParcels 14 = .ok (.if_icmp .ge 21, 3) := by decide +kernel
theorem dX8_sumOfParcels_35 : decode cX8_sumOfParcels 35 = .ok (.iload_n 2, 1) := by decide +kernel
theorem dX8_sumOfParcels_36 : decode cX8_sumOfParcels 36 = .ok (.ireturn, 1) := by decide +kernel
theorem dX8_takeFrom_0 : decode cX8_takeFrom 0 = .ok (.aload_n 0, 1) := by decide +kernel
theorem dX8_takeFrom_1 : decode cX8_takeFrom 1 = .ok (.aload_n 1, 1) := by decide +kernel
theorem dX8_takeFrom_2 : decode cX8_takeFrom 2 = .ok (.getfield 42, 3) := by decide +kernel
theorem dX8_takeFrom_5 : decode cX8_takeFrom 5 = .ok (.putfield 42, 3) := by decide +kernel
theorem dX8_takeFrom_8 : decode cX8_takeFrom 8 = .ok (.aload_n 0, 1) := by decide +kernel
theorem dX8_takeFrom_9 : decode cX8_takeFrom 9 = .ok (.aload_n 1, 1) := by decide +kernel
theorem dX8_takeFrom_10 : decode cX8_takeFrom 10 = .ok (.getfield 52, 3) := by decide +kernel
theorem dX8_takeFrom_13 : decode cX8_takeFrom 13 = .ok (.putfield 52, 3) := by decide +kernel
theorem dX8_takeFrom_16 : decode cX8_takeFrom 16 = .ok (.aload_n 1, 1) := by decide +kernel
theorem dX8_takeFrom_17 : decode cX8_takeFrom 17 = .ok (.getfield 9, 3) := by decide +kernel
theorem dX8_takeFrom_20 : decode cX8_takeFrom 20 = .ok (.iconst 0, 1) := by decide +kernel
theorem dX8_takeFrom_21 : decode cX8_takeFrom 21 = .ok (.aload_n 0, 1) := by decide +kernel
theorem dX8_takeFrom_22 : decode cX8_takeFrom 22 = .ok (.getfield 9, 3) := by decide +kernel
theorem dX8_takeFrom_25 : decode cX8_takeFrom 25 = .ok (.iconst 0, 1) := by decide +kernel
theorem dX8_takeFrom_26 : decode cX8_takeFrom 26 = .ok (.aload_n 0, 1) := by decide +kernel
theorem dX8_takeFrom_27 : decode cX8_takeFrom 27 = .ok (.getfield 9, 3) := by decide +kernel
theorem dX8_takeFrom_30 : decode cX8_takeFrom 30 = .ok (.arraylength, 1) := by decide +kernel
theorem dX8_takeFrom_31 : decode cX8_takeFrom 31 = .ok (.invokestatic 56, 3) := by decide +kernel
theorem dX8_takeFrom_34 : decode cX8_takeFrom 34 = .ok (.aload_n 1, 1) := by decide +kernel
theorem dX8_takeFrom_35 : decode cX8_takeFrom 35 = .ok (.getfield 15, 3) := by decide +kernel
theorem dX8_takeFrom_38 : decode cX8_takeFrom 38 = .ok (.iconst 0, 1) := by decide +kernel
theorem dX8_takeFrom_39 : decode cX8_takeFrom 39 = .ok (.aload_n 0, 1) := by decide +kernel
theorem dX8_takeFrom_40 : decode cX8_takeFrom 40 = .ok (.getfield 15, 3) := by decide +kernel
theorem dX8_takeFrom_43 : decode cX8_takeFrom 43 = .ok (.iconst 0, 1) := by decide +kernel
theorem dX8_takeFrom_44 : decode cX8_takeFrom 44 = .ok (.aload_n 0, 1) := by decide +kernel
theorem dX8_takeFrom_45 : decode cX8_takeFrom 45 = .ok (.getfield 15, 3) := by decide +kernel
theorem dX8_takeFrom_48 : decode cX8_takeFrom 48 = .ok (.arraylength, 1) := by decide +kernel
theorem dX8_takeFrom_49 : decode cX8_takeFrom 49 = .ok (.invokestatic 56, 3) := by decide +kernel
theorem dX8_takeFrom_52 : decode cX8_takeFrom 52 = .ok (.aload_n 1, 1) := by decide +kernel
theorem dX8_takeFrom_53 : decode cX8_takeFrom 53 = .ok (.getfield 18, 3) := by decide +kernel
theorem dX8_takeFrom_56 : decode cX8_takeFrom 56 = .ok (.iconst 0, 1) := by decide +kernel
theorem dX8_takeFrom_57 : decode cX8_takeFrom 57 = .ok (.aload_n 0, 1) := by decide +kernel
theorem dX8_takeFrom_58 : decode cX8_takeFrom 58 = .ok (.getfield 18, 3) := by decide +kernel
theorem dX8_takeFrom_61 : decode cX8_takeFrom 61 = .ok (.iconst 0, 1) := by decide +kernel
theorem dX8_takeFrom_62 : decode cX8_takeFrom 62 = .ok (.aload_n 0, 1) := by decide +kernel
theorem dX8_takeFrom_63 : decode cX8_takeFrom 63 = .ok (.getfield 18, 3) := by decide +kernel
theorem dX8_takeFrom_66 : decode cX8_takeFrom 66 = .ok (.arraylength, 1) := by decide +kernel
theorem dX8_takeFrom_67 : decode cX8_takeFrom 67 = .ok (.invokestatic 56, 3) := by decide +kernel
theorem dX8_takeFrom_70 : decode cX8_takeFrom 70 = .ok (.aload_n 1, 1) := by decide +kernel
theorem dX8_takeFrom_71 : decode cX8_takeFrom 71 = .ok (.getfield 21, 3) := by decide +kernel
theorem dX8_takeFrom_74 : decode cX8_takeFrom 74 = .ok (.iconst 0, 1) := by decide +kernel
theorem dX8_takeFrom_75 : decode cX8_takeFrom 75 = .ok (.aload_n 0, 1) := by decide +kernel
theorem dX8_takeFrom_76 : decode cX8_takeFrom 76 = .ok (.getfield 21, 3) := by decide +kernel
theorem dX8_takeFrom_79 : decode cX8_takeFrom 79 = .ok (.iconst 0, 1) := by decide +kernel
theorem dX8_takeFrom_80 : decode cX8_takeFrom 80 = .ok (.aload_n 0, 1) := by decide +kernel
theorem dX8_takeFrom_81 : decode cX8_takeFrom 81 = .ok (.getfield 21, 3) := by decide +kernel
theorem dX8_takeFrom_84 : decode cX8_takeFrom 84 = .ok (.arraylength, 1) := by decide +kernel
theorem dX8_takeFrom_85 : decode cX8_takeFrom 85 = .ok (.invokestatic 56, 3) := by decide +kernel
theorem dX8_takeFrom_88 : decode cX8_takeFrom 88 = .ok (.aload_n 1, 1) := by decide +kernel
theorem dX8_takeFrom_89 : decode cX8_takeFrom 89 = .ok (.getfield 24, 3) := by decide +kernel
theorem dX8_takeFrom_92 : decode cX8_takeFrom 92 = .ok (.iconst 0, 1) := by decide +kernel
theorem dX8_takeFrom_93 : decode cX8_takeFrom 93 = .ok (.aload_n 0, 1) := by decide +kernel
theorem dX8_takeFrom_94 : decode cX8_takeFrom 94 = .ok (.getfield 24, 3) := by decide +kernel
theorem dX8_takeFrom_97 : decode cX8_takeFrom 97 = .ok (.iconst 0, 1) := by decide +kernel
theorem dX8_takeFrom_98 : decode cX8_takeFrom 98 = .ok (.aload_n 0, 1) := by decide +kernel
theorem dX8_takeFrom_99 : decode cX8_takeFrom 99 = .ok (.getfield 24, 3) := by decide +kernel
theorem dX8_takeFrom_102 : decode cX8_takeFrom 102 = .ok (.arraylength, 1) := by decide +kernel
theorem dX8_takeFrom_103 : decode cX8_takeFrom 103 = .ok (.invokestatic 56, 3) := by decide +kernel
theorem dX8_takeFrom_106 : decode cX8_takeFrom 106 = .ok (.aload_n 1, 1) := by decide +kernel
theorem dX8_takeFrom_107 : decode cX8_takeFrom 107 = .ok (.getfield 27, 3) := by decide +kernel
theorem dX8_takeFrom_110 : decode cX8_takeFrom 110 = .ok (.iconst 0, 1) := by decide +kernel
theorem dX8_takeFrom_111 : decode cX8_takeFrom 111 = .ok (.aload_n 0, 1) := by decide +kernel
theorem dX8_takeFrom_112 : decode cX8_takeFrom 112 = .ok (.getfield 27, 3) := by decide +kernel
theorem dX8_takeFrom_115 : decode cX8_takeFrom 115 = .ok (.iconst 0, 1) := by decide +kernel
theorem dX8_takeFrom_116 : decode cX8_takeFrom 116 = .ok (.aload_n 0, 1) := by decide +kernel
theorem dX8_takeFrom_117 : decode cX8_takeFrom 117 = .ok (.getfield 27, 3) := by decide +kernel
theorem dX8_takeFrom_120 : decode cX8_takeFrom 120 = .ok (.arraylength, 1) := by decide +kernel
theorem dX8_takeFrom_121 : decode cX8_takeFrom 121 = .ok (.invokestatic 56, 3) := by decide +kernel
theorem dX8_takeFrom_124 : decode cX8_takeFrom 124 = .ok (.aload_n 1, 1) := by decide +kernel
theorem dX8_takeFrom_125 : decode cX8_takeFrom 125 = .ok (.getfield 30, 3) := by decide +kernel
theorem dX8_takeFrom_128 : decode cX8_takeFrom 128 = .ok (.iconst 0, 1) := by decide +kernel
theorem dX8_takeFrom_129 : decode cX8_takeFrom 129 = .ok (.aload_n 0, 1) := by decide +kernel
theorem dX8_takeFrom_130 : decode cX8_takeFrom 130 = .ok (.getfield 30, 3) := by decide +kernel
theorem dX8_takeFrom_133 : decode cX8_takeFrom 133 = .ok (.iconst 0, 1) := by decide +kernel
theorem dX8_takeFrom_134 : decode cX8_takeFrom 134 = .ok (.aload_n 0, 1) := by decide +kernel
theorem dX8_takeFrom_135 : decode cX8_takeFrom 135 = .ok (.getfield 30, 3) := by decide +kernel
theorem dX8_takeFrom_138 : decode cX8_takeFrom 138 = .ok (.arraylength, 1) := by decide +kernel
theorem dX8_takeFrom_139 : decode cX8_takeFrom 139 = .ok (.invokestatic 56, 3) := by decide +kernel
theorem dX8_takeFrom_142 : decode cX8_takeFrom 142 = .ok (.aload_n 1, 1) := by decide +kernel
theorem dX8_takeFrom_143 : decode cX8_takeFrom 143 = .ok (.getfield 33, 3) := by decide +kernel
theorem dX8_takeFrom_146 : decode cX8_takeFrom 146 = .ok (.iconst 0, 1) := by decide +kernel
theorem dX8_takeFrom_147 : decode cX8_takeFrom 147 = .ok (.aload_n 0, 1) := by decide +kernel
theorem dX8_takeFrom_148 : decode cX8_takeFrom 148 = .ok (.getfield 33, 3) := by decide +kernel
theorem dX8_takeFrom_151 : decode cX8_takeFrom 151 = .ok (.iconst 0, 1) := by decide +kernel
theorem dX8_takeFrom_152 : decode cX8_takeFrom 152 = .ok (.aload_n 0, 1) := by decide +kernel
theorem dX8_takeFrom_153 : decode cX8_takeFrom 153 = .ok (.getfield 33, 3) := by decide +kernel
theorem dX8_takeFrom_156 : decode cX8_takeFrom 156 = .ok (.arraylength, 1) := by decide +kernel
theorem dX8_takeFrom_157 : decode cX8_takeFrom 157 = .ok (.invokestatic 56, 3) := by decide +kernel
theorem dX8_takeFrom_160 : decode cX8_takeFrom 160 = .ok (.aload_n 1, 1) := by decide +kernel
theorem dX8_takeFrom_161 : decode cX8_takeFrom 161 = .ok (.getfield 36, 3) := by decide +kernel
theorem dX8_takeFrom_164 : decode cX8_takeFrom 164 = .ok (.iconst 0, 1) := by decide +kernel
theorem dX8_takeFrom_165 : decode cX8_takeFrom 165 = .ok (.aload_n 0, 1) := by decide +kernel
theorem dX8_takeFrom_166 : decode cX8_takeFrom 166 = .ok (.getfield 36, 3) := by decide +kernel
theorem dX8_takeFrom_169 : decode cX8_takeFrom 169 = .ok (.iconst 0, 1) := by decide +kernel
theorem dX8_takeFrom_170 : decode cX8_takeFrom 170 = .ok (.aload_n 0, 1) := by decide +kernel
theorem dX8_takeFrom_171 : decode cX8_takeFrom 171 = .ok (.getfield 36, 3) := by decide +kernel
theorem dX8_takeFrom_174 : decode cX8_takeFrom 174 = .ok (.arraylength, 1) := by decide +kernel
theorem dX8_takeFrom_175 : decode cX8_takeFrom 175 = .ok (.invokestatic 56, 3) := by decide +kernel
theorem dX8_takeFrom_178 : decode cX8_takeFrom 178 = .ok (.return_, 1) := by decide +kernel
theorem dX8_whichAreNothing_0 : decode cX8_whichAreNothing 0 = .ok (.iconst 0, 1) := by decide +kernel
theorem dX8_whichAreNothing_1 : decode cX8_whichAreNothing 1 = .ok (.istore_n 1, 1) := by decide +kernel
theorem dX8_whichAreNothing_2 : decode cX8_whichAreNothing 2 = .ok (.iconst 0, 1) := by decide +kernel
theorem dX8_whichAreNothing_3 : decode cX8_whichAreNothing 3 = .ok (.istore_n 2, 1) := by decide +kernel
theorem dX8_whichAreNothing_4 : decode cX8_whichAreNothing 4 = .ok (.iload_n 2, 1) := by decide +kernel
theorem dX8_whichAreNothing_5 : decode cX8_whichAreNothing 5 = .ok (.aload_n 0, 1) := by decide +kernel
theorem dX8_whichAreNothing_6 : decode cX8_whichAreNothing 6 = .ok (.getfield 42, 3) := by decide +kernel
theorem dX8_whichAreNothing_9 : decode cX8_whichAreNothing 9 = .ok (.getfield 74, 3) := by decide +kernel
theorem dX8_whichAreNothing_12 : decode cX8_whichAreNothing 12 = .ok (.iconst 2, 1) := by decide +kernel
theorem dX8_whichAreNothing_13 : decode cX8_whichAreNothing 13 = .ok (.iaload, 1) := by decide +kernel
theorem dX8_whichAreNothing_14 : decode cX8_whichAreNothing 14 = .ok (.if_icmp .ge 24, 3) := by decide +kernel
theorem dX8_whichAreNothing_38 : decode cX8_whichAreNothing 38 = .ok (.iload_n 1, 1) := by decide +kernel
theorem dX8_whichAreNothing_39 : decode cX8_whichAreNothing 39 = .ok (.ireturn, 1) := by decide +kernel
theorem dX8_whichAreOpen_0 : decode cX8_whichAreOpen 0 = .ok (.iconst 0, 1) := by decide +kernel
theorem dX8_whichAreOpen_1 : decode cX8_whichAreOpen 1 = .ok (.istore_n 1, 1) := by decide +kernel
theorem dX8_whichAreOpen_2 : decode cX8_whichAreOpen 2 = .ok (.iconst 0, 1) := by decide +kernel
theorem dX8_whichAreOpen_3 : decode cX8_whichAreOpen 3 = .ok (.istore_n 2, 1) := by decide +kernel
theorem dX8_whichAreOpen_4 : decode cX8_whichAreOpen 4 = .ok (.iload_n 2, 1) := by decide +kernel
theorem dX8_whichAreOpen_5 : decode cX8_whichAreOpen 5 = .ok (.aload_n 0, 1) := by decide +kernel
theorem dX8_whichAreOpen_6 : decode cX8_whichAreOpen 6 = .ok (.getfield 42, 3) := by decide +kernel
theorem dX8_whichAreOpen_9 : decode cX8_whichAreOpen 9 = .ok (.getfield 74, 3) := by decide +kernel
theorem dX8_whichAreOpen_12 : decode cX8_whichAreOpen 12 = .ok (.iconst 2, 1) := by decide +kernel
theorem dX8_whichAreOpen_13 : decode cX8_whichAreOpen 13 = .ok (.iaload, 1) := by decide +kernel
theorem dX8_whichAreOpen_14 : decode cX8_whichAreOpen 14 = .ok (.if_icmp .ge 23, 3) := by decide +kernel
theorem dX8_whichAreOpen_37 : decode cX8_whichAreOpen 37 = .ok (.iload_n 1, 1) := by decide +kernel
theorem dX8_whichAreOpen_38 : decode cX8_whichAreOpen 38 = .ok (.ireturn, 1) := by decide +kernel
theorem dX8_whichAreWatched_0 : decode cX8_whichAreWatched 0 = .ok (.iconst 0, 1) := by decide +kernel
theorem dX8_whichAreWatched_1 : decode cX8_whichAreWatched 1 = .ok (.istore_n 1, 1) := by decide +kernel
theorem dX8_whichAreWatched_2 : decode cX8_whichAreWatched 2 = .ok (.iconst 0, 1) := by decide +kernel
theorem dX8_whichAreWatched_3 : decode cX8_whichAreWatched 3 = .ok (.istore_n 2, 1) := by decide +kernel
theorem dX8_whichAreWatched_4 : decode cX8_whichAreWatched 4 = .ok (.iload_n 2, 1) := by decide +kernel
theorem dX8_whichAreWatched_5 : decode cX8_whichAreWatched 5 = .ok (.aload_n 0, 1) := by decide +kernel
theorem dX8_whichAreWatched_6 : decode cX8_whichAreWatched 6 = .ok (.getfield 42, 3) := by decide +kernel
theorem dX8_whichAreWatched_9 : decode cX8_whichAreWatched 9 = .ok (.getfield 74, 3) := by decide +kernel
theorem dX8_whichAreWatched_12 : decode cX8_whichAreWatched 12 = .ok (.iconst 2, 1) := by decide +kernel
theorem dX8_whichAreWatched_13 : decode cX8_whichAreWatched 13 = .ok (.iaload, 1) := by decide +kernel
theorem dX8_whichAreWatched_14 : decode cX8_whichAreWatched 14 = .ok (.if_icmp .ge 23, 3) := by decide +kernel
theorem dX8_whichAreWatched_37 : decode cX8_whichAreWatched 37 = .ok (.iload_n 1, 1) := by decide +kernel
theorem dX8_whichAreWatched_38 : decode cX8_whichAreWatched 38 = .ok (.ireturn, 1) := by decide +kernel
theorem dX9_init_0 : decode cX9_init 0 = .ok (.aload_n 0, 1) := by decide +kernel
theorem dX9_init_1 : decode cX9_init 1 = .ok (.invokespecial 1, 3) := by decide +kernel
theorem dX9_init_4 : decode cX9_init 4 = .ok (.aload_n 0, 1) := by decide +kernel
theorem dX9_init_5 : decode cX9_init 5 = .ok (.new 7, 3) := by decide +kernel
theorem dX9_init_8 : decode cX9_init 8 = .ok (.dup, 1) := by decide +kernel
theorem dX9_init_9 : decode cX9_init 9 = .ok (.invokespecial 9, 3) := by decide +kernel
theorem dX9_init_12 : decode cX9_init 12 = .ok (.putfield 10, 3) := by decide +kernel
theorem dX9_init_15 : decode cX9_init 15 = .ok (.aload_n 0, 1) := by decide +kernel
theorem dX9_init_16 : decode cX9_init 16 = .ok (.new 16, 3) := by decide +kernel
theorem dX9_init_19 : decode cX9_init 19 = .ok (.dup, 1) := by decide +kernel
theorem dX9_init_20 : decode cX9_init 20 = .ok (.invokespecial 18, 3) := by decide +kernel
theorem dX9_init_23 : decode cX9_init 23 = .ok (.putfield 19, 3) := by decide +kernel
theorem dX9_init_26 : decode cX9_init 26 = .ok (.aload_n 0, 1) := by decide +kernel
theorem dX9_init_27 : decode cX9_init 27 = .ok (.iconst 4, 1) := by decide +kernel
theorem dX9_init_28 : decode cX9_init 28 = .ok (.newarray .int, 2) := by decide +kernel
theorem dX9_init_30 : decode cX9_init 30 = .ok (.dup, 1) := by decide +kernel
theorem dX9_init_31 : decode cX9_init 31 = .ok (.iconst 0, 1) := by decide +kernel
theorem dX9_init_32 : decode cX9_init 32 = .ok (.iconst (-1), 1) := by decide +kernel
theorem dX9_init_33 : decode cX9_init 33 = .ok (.iastore, 1) := by decide +kernel
theorem dX9_init_34 : decode cX9_init 34 = .ok (.dup, 1) := by decide +kernel
theorem dX9_init_35 : decode cX9_init 35 = .ok (.iconst 1, 1) := by decide +kernel
theorem dX9_init_36 : decode cX9_init 36 = .ok (.iconst (-1), 1) := by decide +kernel
theorem dX9_init_37 : decode cX9_init 37 = .ok (.iastore, 1) := by decide +kernel
theorem dX9_init_38 : decode cX9_init 38 = .ok (.dup, 1) := by decide +kernel
theorem dX9_init_39 : decode cX9_init 39 = .ok (.iconst 2, 1) := by decide +kernel
theorem dX9_init_40 : decode cX9_init 40 = .ok (.iconst (-1), 1) := by decide +kernel
theorem dX9_init_41 : decode cX9_init 41 = .ok (.iastore, 1) := by decide +kernel
theorem dX9_init_42 : decode cX9_init 42 = .ok (.dup, 1) := by decide +kernel
theorem dX9_init_43 : decode cX9_init 43 = .ok (.iconst 3, 1) := by decide +kernel
theorem dX9_init_44 : decode cX9_init 44 = .ok (.iconst (-1), 1) := by decide +kernel
theorem dX9_init_45 : decode cX9_init 45 = .ok (.iastore, 1) := by decide +kernel
theorem dX9_init_46 : decode cX9_init 46 = .ok (.putfield 23, 3) := by decide +kernel
theorem dX9_init_49 : decode cX9_init 49 = .ok (.aload_n 0, 1) := by decide +kernel
theorem dX9_init_50 : decode cX9_init 50 = .ok (.new 27, 3) := by decide +kernel
theorem dX9_init_53 : decode cX9_init 53 = .ok (.dup, 1) := by decide +kernel
theorem dX9_init_54 : decode cX9_init 54 = .ok (.invokespecial 29, 3) := by decide +kernel
theorem dX9_init_57 : decode cX9_init 57 = .ok (.putfield 30, 3) := by decide +kernel
theorem dX9_init_60 : decode cX9_init 60 = .ok (.aload_n 0, 1) := by decide +kernel
theorem dX9_init_61 : decode cX9_init 61 = .ok (.bipush 8, 2) := by decide +kernel
theorem dX9_init_63 : decode cX9_init 63 = .ok (.newarray .int, 2) := by decide +kernel
theorem dX9_init_65 : decode cX9_init 65 = .ok (.putfield 34, 3) := by decide +kernel
theorem dX9_init_68 : decode cX9_init 68 = .ok (.aload_n 0, 1) := by decide +kernel
theorem dX9_init_69 : decode cX9_init 69 = .ok (.new 37, 3) := by decide +kernel
theorem dX9_init_72 : decode cX9_init 72 = .ok (.dup, 1) := by decide +kernel
theorem dX9_init_73 : decode cX9_init 73 = .ok (.invokespecial 39, 3) := by decide +kernel
theorem dX9_init_76 : decode cX9_init 76 = .ok (.putfield 40, 3) := by decide +kernel
theorem dX9_init_79 : decode cX9_init 79 = .ok (.aload_n 0, 1) := by decide +kernel
theorem dX9_init_80 : decode cX9_init 80 = .ok (.iconst 0, 1) := by decide +kernel
theorem dX9_init_81 : decode cX9_init 81 = .ok (.putfield 44, 3) := by decide +kernel
theorem dX9_init_84 : decode cX9_init 84 = .ok (.aload_n 0, 1) := by decide +kernel
theorem dX9_init_85 : decode cX9_init 85 = .ok (.iconst (-1), 1) := by decide +kernel
theorem dX9_init_86 : decode cX9_init 86 = .ok (.putfield 48, 3) := by decide +kernel
theorem dX9_init_89 : decode cX9_init 89 = .ok (.aload_n 0, 1) := by decide +kernel
theorem dX9_init_90 : decode cX9_init 90 = .ok (.iconst (-1), 1) := by decide +kernel
theorem dX9_init_91 : decode cX9_init 91 = .ok (.putfield 51, 3) := by decide +kernel
theorem dX9_init_94 : decode cX9_init 94 = .ok (.aload_n 0, 1) := by decide +kernel
theorem dX9_init_95 : decode cX9_init 95 = .ok (.iconst (-1), 1) := by decide +kernel
theorem dX9_init_96 : decode cX9_init 96 = .ok (.putfield 54, 3) := by decide +kernel
theorem dX9_init_99 : decode cX9_init 99 = .ok (.new 57, 3) := by decide +kernel
theorem dX9_init_102 : decode cX9_init 102 = .ok (.dup, 1) := by decide +kernel
theorem dX9_init_103 : decode cX9_init 103 = .ok (.invokespecial 59, 3) := by decide +kernel
theorem dX9_init_106 : decode cX9_init 106 = .ok (.astore_n 1, 1) := by decide +kernel
theorem dX9_init_107 : decode cX9_init 107 = .ok (.aload_n 0, 1) := by decide +kernel
theorem dX9_init_108 : decode cX9_init 108 = .ok (.new 60, 3) := by decide +kernel
theorem dX9_init_111 : decode cX9_init 111 = .ok (.dup, 1) := by decide +kernel
theorem dX9_init_112 : decode cX9_init 112 = .ok (.aload_n 1, 1) := by decide +kernel
theorem dX9_init_113 : decode cX9_init 113 = .ok (.invokespecial 62, 3) := by decide +kernel
theorem dX9_init_116 : decode cX9_init 116 = .ok (.putfield 65, 3) := by decide +kernel
theorem dX9_init_119 : decode cX9_init 119 = .ok (.aload_n 0, 1) := by decide +kernel
theorem dX9_init_120 : decode cX9_init 120 = .ok (.new 60, 3) := by decide +kernel
theorem dX9_init_123 : decode cX9_init 123 = .ok (.dup, 1) := by decide +kernel
theorem dX9_init_124 : decode cX9_init 124 = .ok (.aload_n 1, 1) := by decide +kernel
theorem dX9_init_125 : decode cX9_init 125 = .ok (.invokespecial 62, 3) := by decide +kernel
theorem dX9_init_128 : decode cX9_init 128 = .ok (.putfield 69, 3) := by decide +kernel
theorem dX9_init_131 : decode cX9_init 131 = .ok (.aload_n 0, 1) := by decide +kernel
theorem dX9_init_132 : decode cX9_init 132 = .ok (.new 72, 3) := by decide +kernel
theorem dX9_init_135 : decode cX9_init 135 = .ok (.dup, 1) := by decide +kernel
theorem dX9_init_136 : decode cX9_init 136 = .ok (.aload_n 1, 1) := by decide +kernel
theorem dX9_init_137 : decode cX9_init 137 = .ok (.invokespecial 74, 3) := by decide +kernel
theorem dX9_init_140 : decode cX9_init 140 = .ok (.putfield 75, 3) := by decide +kernel
theorem dX9_init_143 : decode cX9_init 143 = .ok (.aload_n 0, 1) := by decide +kernel
theorem dX9_init_144 : decode cX9_init 144 = .ok (.iconst 2, 1) := by decide +kernel
theorem dX9_init_145 : decode cX9_init 145 = .ok (.anewarray 79, 3) := by decide +kernel
theorem dX9_init_148 : decode cX9_init 148 = .ok (.dup, 1) := by decide +kernel
theorem dX9_init_149 : decode cX9_init 149 = .ok (.iconst 0, 1) := by decide +kernel
theorem dX9_init_150 : decode cX9_init 150 = .ok (.new 79, 3) := by decide +kernel
theorem dX9_init_153 : decode cX9_init 153 = .ok (.dup, 1) := by decide +kernel
theorem dX9_init_154 : decode cX9_init 154 = .ok (.aload_n 1, 1) := by decide +kernel
theorem dX9_init_155 : decode cX9_init 155 = .ok (.invokespecial 81, 3) := by decide +kernel
theorem dX9_init_158 : decode cX9_init 158 = .ok (.aastore, 1) := by decide +kernel
theorem dX9_init_159 : decode cX9_init 159 = .ok (.dup, 1) := by decide +kernel
theorem dX9_init_160 : decode cX9_init 160 = .ok (.iconst 1, 1) := by decide +kernel
theorem dX9_init_161 : decode cX9_init 161 = .ok (.new 79, 3) := by decide +kernel
theorem dX9_init_164 : decode cX9_init 164 = .ok (.dup, 1) := by decide +kernel
theorem dX9_init_165 : decode cX9_init 165 = .ok (.aload_n 1, 1) := by decide +kernel
theorem dX9_init_166 : decode cX9_init 166 = .ok (.invokespecial 81, 3) := by decide +kernel
theorem dX9_init_169 : decode cX9_init 169 = .ok (.aastore, 1) := by decide +kernel
theorem dX9_init_170 : decode cX9_init 170 = .ok (.putfield 82, 3) := by decide +kernel
theorem dX9_init_173 : decode cX9_init 173 = .ok (.aload_n 0, 1) := by decide +kernel
theorem dX9_init_174 : decode cX9_init 174 = .ok (.getfield 34, 3) := by decide +kernel
theorem dX9_init_177 : decode cX9_init 177 = .ok (.iconst (-1), 1) := by decide +kernel
theorem dX9_init_178 : decode cX9_init 178 = .ok (.invokestatic 86, 3) := by decide +kernel
theorem dX9_init_181 : decode cX9_init 181 = .ok (.return_, 1) := by decide +kernel
