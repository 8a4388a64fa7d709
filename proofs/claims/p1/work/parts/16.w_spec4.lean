theorem inX5 : ∀ w ∈ u_ws RX5 TX5 5, w ∈ gT := by decide +kernel
theorem dfX5 : ∀ j, j < 5 → defaultValue (tyX5 j) = vp_V [.null, .null, .null, .int 0, .int 0] j := by decide +kernel
theorem tw_1 : Cond.initialized RX9 ∈ gT := gT_t (List.mem_of_getElem? (i := 1) (by decide +kernel)) (by decide +kernel)
theorem tw_23 : Cond.initialized RX5 ∈ gT := gT_t (List.mem_of_getElem? (i := 23) (by decide +kernel)) (by decide +kernel)
theorem tw_351 : Cond.fieldLink RX9 (117 : Nat) "WonderParcels" "sentence" "LWonderParcels$Sentence;" ∈ gT := gT_t (List.mem_of_getElem? (i := 351) (by decide +kernel)) (by decide +kernel)
theorem tw_396 : Cond.methodLink RX9 (92 : Nat) yX7_hasPlaceForTwenty ∈ gT := gT_t (List.mem_of_getElem? (i := 396) (by decide +kernel)) (by decide +kernel)
theorem tw_397 : Cond.instanceMethod yX7_hasPlaceForTwenty ∈ gT := gT_t (List.mem_of_getElem? (i := 397) (by decide +kernel)) (by decide +kernel)
theorem tw_398 : Cond.selects RX7 yX7_hasPlaceForTwenty yX7_hasPlaceForTwenty ∈ gT := gT_t (List.mem_of_getElem? (i := 398) (by decide +kernel)) (by decide +kernel)
theorem tw_399 : Cond.code yX7_hasPlaceForTwenty cX7_hasPlaceForTwenty 1 (some .boolean) ∈ gT := gT_t (List.mem_of_getElem? (i := 399) (by decide +kernel)) (by decide +kernel)
theorem tw_400 : Cond.methodLink RX9 (96 : Nat) yX7_putFour ∈ gT := gT_t (List.mem_of_getElem? (i := 400) (by decide +kernel)) (by decide +kernel)
theorem tw_401 : Cond.instanceMethod yX7_putFour ∈ gT := gT_t (List.mem_of_getElem? (i := 401) (by decide +kernel)) (by decide +kernel)
theorem tw_402 : Cond.selects RX7 yX7_putFour yX7_putFour ∈ gT := gT_t (List.mem_of_getElem? (i := 402) (by decide +kernel)) (by decide +kernel)
theorem tw_403 : Cond.code yX7_putFour cX7_putFour 3 none ∈ gT := gT_t (List.mem_of_getElem? (i := 403) (by decide +kernel)) (by decide +kernel)
theorem tw_412 : Cond.methodLink RX9 (103 : Nat) yX3_read ∈ gT := gT_t (List.mem_of_getElem? (i := 412) (by decide +kernel)) (by decide +kernel)
theorem tw_413 : Cond.instanceMethod yX3_read ∈ gT := gT_t (List.mem_of_getElem? (i := 413) (by decide +kernel)) (by decide +kernel)
theorem tw_414 : Cond.selects RX3 yX3_read yX3_read ∈ gT := gT_t (List.mem_of_getElem? (i := 414) (by decide +kernel)) (by decide +kernel)
theorem tw_415 : Cond.code yX3_read cX3_read 5 (some .int) ∈ gT := gT_t (List.mem_of_getElem? (i := 415) (by decide +kernel)) (by decide +kernel)
theorem tw_416 : Cond.methodLink RX3 (45 : Nat) yX8_begin ∈ gT := gT_t (List.mem_of_getElem? (i := 416) (by decide +kernel)) (by decide +kernel)
theorem tw_417 : Cond.instanceMethod yX8_begin ∈ gT := gT_t (List.mem_of_getElem? (i := 417) (by decide +kernel)) (by decide +kernel)
theorem tw_418 : Cond.selects RX8 yX8_begin yX8_begin ∈ gT := gT_t (List.mem_of_getElem? (i := 418) (by decide +kernel)) (by decide +kernel)
theorem tw_419 : Cond.code yX8_begin cX8_begin 2 none ∈ gT := gT_t (List.mem_of_getElem? (i := 419) (by decide +kernel)) (by decide +kernel)
theorem tw_420 : Cond.methodLink RX3 (51 : Nat) yX7_startText ∈ gT := gT_t (List.mem_of_getElem? (i := 420) (by decide +kernel)) (by decide +kernel)
theorem tw_421 : Cond.instanceMethod yX7_startText ∈ gT := gT_t (List.mem_of_getElem? (i := 421) (by decide +kernel)) (by decide +kernel)
theorem tw_422 : Cond.selects RX7 yX7_startText yX7_startText ∈ gT := gT_t (List.mem_of_getElem? (i := 422) (by decide +kernel)) (by decide +kernel)
theorem tw_423 : Cond.code yX7_startText cX7_startText 2 none ∈ gT := gT_t (List.mem_of_getElem? (i := 423) (by decide +kernel)) (by decide +kernel)
theorem tw_438 : Cond.methodLink RX3 (57 : Nat) yX7_goesOn ∈ gT := gT_t (List.mem_of_getElem? (i := 438) (by decide +kernel)) (by decide +kernel)
theorem tw_439 : Cond.instanceMethod yX7_goesOn ∈ gT := gT_t (List.mem_of_getElem? (i := 439) (by decide +kernel)) (by decide +kernel)
theorem tw_440 : Cond.selects RX7 yX7_goesOn yX7_goesOn ∈ gT := gT_t (List.mem_of_getElem? (i := 440) (by decide +kernel)) (by decide +kernel)
theorem tw_441 : Cond.code yX7_goesOn cX7_goesOn 1 (some .boolean) ∈ gT := gT_t (List.mem_of_getElem? (i := 441) (by decide +kernel)) (by decide +kernel)
theorem tw_443 : Cond.instanceMethod yX7_refuse ∈ gT := gT_t (List.mem_of_getElem? (i := 443) (by decide +kernel)) (by decide +kernel)
theorem tw_444 : Cond.selects RX7 yX7_refuse yX7_refuse ∈ gT := gT_t (List.mem_of_getElem? (i := 444) (by decide +kernel)) (by decide +kernel)
theorem tw_445 : Cond.code yX7_refuse cX7_refuse 2 none ∈ gT := gT_t (List.mem_of_getElem? (i := 445) (by decide +kernel)) (by decide +kernel)
theorem tw_517 : Cond.methodLink RX9 (107 : Nat) yX9_noteFault ∈ gT := gT_t (List.mem_of_getElem? (i := 517) (by decide +kernel)) (by decide +kernel)
theorem tw_519 : Cond.instanceMethod yX9_noteFault ∈ gT := gT_t (List.mem_of_getElem? (i := 519) (by decide +kernel)) (by decide +kernel)
theorem tw_520 : Cond.code yX9_noteFault cX9_noteFault 1 none ∈ gT := gT_t (List.mem_of_getElem? (i := 520) (by decide +kernel)) (by decide +kernel)
theorem tw_521 : Cond.methodLink RX9 (113 : Nat) yX8_takeFrom ∈ gT := gT_t (List.mem_of_getElem? (i := 521) (by decide +kernel)) (by decide +kernel)
theorem tw_528 : Cond.methodLink RX9 (121 : Nat) yX1_forget ∈ gT := gT_t (List.mem_of_getElem? (i := 528) (by decide +kernel)) (by decide +kernel)
theorem tw_529 : Cond.instanceMethod yX1_forget ∈ gT := gT_t (List.mem_of_getElem? (i := 529) (by decide +kernel)) (by decide +kernel)
theorem tw_530 : Cond.selects RX1 yX1_forget yX1_forget ∈ gT := gT_t (List.mem_of_getElem? (i := 530) (by decide +kernel)) (by decide +kernel)
theorem tw_531 : Cond.code yX1_forget cX1_forget 1 none ∈ gT := gT_t (List.mem_of_getElem? (i := 531) (by decide +kernel)) (by decide +kernel)
theorem tw_540 : Cond.methodLink RX9 (124 : Nat) yX9_isOf ∈ gT := gT_t (List.mem_of_getElem? (i := 540) (by decide +kernel)) (by decide +kernel)
theorem tw_542 : Cond.instanceMethod yX9_isOf ∈ gT := gT_t (List.mem_of_getElem? (i := 542) (by decide +kernel)) (by decide +kernel)
theorem tw_543 : Cond.code yX9_isOf cX9_isOf 3 (some .boolean) ∈ gT := gT_t (List.mem_of_getElem? (i := 543) (by decide +kernel)) (by decide +kernel)
theorem tw_557 : Cond.methodLink RX9 (195 : Nat) yX8_whichAreOpen ∈ gT := gT_t (List.mem_of_getElem? (i := 557) (by decide +kernel)) (by decide +kernel)
theorem tw_558 : Cond.instanceMethod yX8_whichAreOpen ∈ gT := gT_t (List.mem_of_getElem? (i := 558) (by decide +kernel)) (by decide +kernel)
theorem tw_559 : Cond.selects RX8 yX8_whichAreOpen yX8_whichAreOpen ∈ gT := gT_t (List.mem_of_getElem? (i := 559) (by decide +kernel)) (by decide +kernel)
theorem tw_560 : Cond.code yX8_whichAreOpen cX8_whichAreOpen 3 (some .int) ∈ gT := gT_t (List.mem_of_getElem? (i := 560) (by decide +kernel)) (by decide +kernel)
theorem tw_565 : Cond.methodLink RX9 (199 : Nat) yX8_whichAreNothing ∈ gT := gT_t (List.mem_of_getElem? (i := 565) (by decide +kernel)) (by decide +kernel)
theorem tw_566 : Cond.instanceMethod yX8_whichAreNothing ∈ gT := gT_t (List.mem_of_getElem? (i := 566) (by decide +kernel)) (by decide +kernel)
theorem tw_567 : Cond.selects RX8 yX8_whichAreNothing yX8_whichAreNothing ∈ gT := gT_t (List.mem_of_getElem? (i := 567) (by decide +kernel)) (by decide +kernel)
theorem tw_568 : Cond.code yX8_whichAreNothing cX8_whichAreNothing 3 (some .int) ∈ gT := gT_t (List.mem_of_getElem? (i := 568) (by decide +kernel)) (by decide +kernel)
theorem tw_581 : Cond.methodLink RX9 (202 : Nat) yX8_whichAreWatched ∈ gT := gT_t (List.mem_of_getElem? (i := 581) (by decide +kernel)) (by decide +kernel)
theorem tw_582 : Cond.instanceMethod yX8_whichAreWatched ∈ gT := gT_t (List.mem_of_getElem? (i := 582) (by decide +kernel)) (by decide +kernel)
theorem tw_583 : Cond.selects RX8 yX8_whichAreWatched yX8_whichAreWatched ∈ gT := gT_t (List.mem_of_getElem? (i := 583) (by decide +kernel)) (by decide +kernel)
theorem tw_584 : Cond.code yX8_whichAreWatched cX8_whichAreWatched 3 (some .int) ∈ gT := gT_t (List.mem_of_getElem? (i := 584) (by decide +kernel)) (by decide +kernel)
theorem tw_589 : Cond.methodLink RX9 (205 : Nat) yX8_allThatAllHave ∈ gT := gT_t (List.mem_of_getElem? (i := 589) (by decide +kernel)) (by decide +kernel)
theorem tw_590 : Cond.instanceMethod yX8_allThatAllHave ∈ gT := gT_t (List.mem_of_getElem? (i := 590) (by decide +kernel)) (by decide +kernel)
theorem tw_591 : Cond.selects RX8 yX8_allThatAllHave yX8_allThatAllHave ∈ gT := gT_t (List.mem_of_getElem? (i := 591) (by decide +kernel)) (by decide +kernel)
theorem tw_592 : Cond.code yX8_allThatAllHave cX8_allThatAllHave 3 (some .int) ∈ gT := gT_t (List.mem_of_getElem? (i := 592) (by decide +kernel)) (by decide +kernel)
theorem tw_598 : Cond.methodLink RX9 (208 : Nat) yX8_sumOfParcels ∈ gT := gT_t (List.mem_of_getElem? (i := 598) (by decide +kernel)) (by decide +kernel)
theorem tw_599 : Cond.instanceMethod yX8_sumOfParcels ∈ gT := gT_t (List.mem_of_getElem? (i := 599) (by decide +kernel)) (by decide +kernel)
theorem tw_600 : Cond.selects RX8 yX8_sumOfParcels yX8_sumOfParcels ∈ gT := gT_t (List.mem_of_getElem? (i := 600) (by decide +kernel)) (by decide +kernel)
theorem tw_601 : Cond.code yX8_sumOfParcels cX8_sumOfParcels 4 (some .int) ∈ gT := gT_t (List.mem_of_getElem? (i := 601) (by decide +kernel)) (by decide +kernel)
theorem tw_606 : Cond.methodLink RX9 (212 : Nat) yX1_prepare ∈ gT := gT_t (List.mem_of_getElem? (i := 606) (by decide +kernel)) (by decide +kernel)
theorem tw_607 : Cond.instanceMethod yX1_prepare ∈ gT := gT_t (List.mem_of_getElem? (i := 607) (by decide +kernel)) (by decide +kernel)
theorem tw_608 : Cond.selects RX1 yX1_prepare yX1_prepare ∈ gT := gT_t (List.mem_of_getElem? (i := 608) (by decide +kernel)) (by decide +kernel)
theorem tw_609 : Cond.code yX1_prepare cX1_prepare 2 none ∈ gT := gT_t (List.mem_of_getElem? (i := 609) (by decide +kernel)) (by decide +kernel)
theorem tw_619 : Cond.methodLink RX9 (230 : Nat) yX1_keep ∈ gT := gT_t (List.mem_of_getElem? (i := 619) (by decide +kernel)) (by decide +kernel)
theorem tw_620 : Cond.instanceMethod yX1_keep ∈ gT := gT_t (List.mem_of_getElem? (i := 620) (by decide +kernel)) (by decide +kernel)
theorem tw_621 : Cond.selects RX1 yX1_keep yX1_keep ∈ gT := gT_t (List.mem_of_getElem? (i := 621) (by decide +kernel)) (by decide +kernel)
theorem tw_622 : Cond.code yX1_keep cX1_keep 1 none ∈ gT := gT_t (List.mem_of_getElem? (i := 622) (by decide +kernel)) (by decide +kernel)
theorem tw_677 : Cond.methodLink RX9 (242 : Nat) yX8_goDays ∈ gT := gT_t (List.mem_of_getElem? (i := 677) (by decide +kernel)) (by decide +kernel)
theorem tw_678 : Cond.instanceMethod yX8_goDays ∈ gT := gT_t (List.mem_of_getElem? (i := 678) (by decide +kernel)) (by decide +kernel)
theorem tw_679 : Cond.selects RX8 yX8_goDays yX8_goDays ∈ gT := gT_t (List.mem_of_getElem? (i := 679) (by decide +kernel)) (by decide +kernel)
theorem tw_680 : Cond.code yX8_goDays cX8_goDays 4 (some .int) ∈ gT := gT_t (List.mem_of_getElem? (i := 680) (by decide +kernel)) (by decide +kernel)
theorem tw_709 : Cond.methodLink RX9 (245 : Nat) yX9_keptIfSome ∈ gT := gT_t (List.mem_of_getElem? (i := 709) (by decide +kernel)) (by decide +kernel)
theorem tw_711 : Cond.instanceMethod yX9_keptIfSome ∈ gT := gT_t (List.mem_of_getElem? (i := 711) (by decide +kernel)) (by decide +kernel)
theorem tw_712 : Cond.code yX9_keptIfSome cX9_keptIfSome 2 (some .int) ∈ gT := gT_t (List.mem_of_getElem? (i := 712) (by decide +kernel)) (by decide +kernel)
theorem tw_717 : Cond.methodLink RX9 (248 : Nat) yX1_giveBack ∈ gT := gT_t (List.mem_of_getElem? (i := 717) (by decide +kernel)) (by decide +kernel)
theorem tw_718 : Cond.instanceMethod yX1_giveBack ∈ gT := gT_t (List.mem_of_getElem? (i := 718) (by decide +kernel)) (by decide +kernel)
theorem tw_719 : Cond.selects RX1 yX1_giveBack yX1_giveBack ∈ gT := gT_t (List.mem_of_getElem? (i := 719) (by decide +kernel)) (by decide +kernel)
theorem tw_720 : Cond.code yX1_giveBack cX1_giveBack 2 (some .int) ∈ gT := gT_t (List.mem_of_getElem? (i := 720) (by decide +kernel)) (by decide +kernel)
theorem tw_756 : Cond.methodLink RX9 (279 : Nat) yX7_at ∈ gT := gT_t (List.mem_of_getElem? (i := 756) (by decide +kernel)) (by decide +kernel)
theorem tw_757 : Cond.instanceMethod yX7_at ∈ gT := gT_t (List.mem_of_getElem? (i := 757) (by decide +kernel)) (by decide +kernel)
theorem tw_758 : Cond.selects RX7 yX7_at yX7_at ∈ gT := gT_t (List.mem_of_getElem? (i := 758) (by decide +kernel)) (by decide +kernel)
theorem tw_759 : Cond.code yX7_at cX7_at 2 (some .int) ∈ gT := gT_t (List.mem_of_getElem? (i := 759) (by decide +kernel)) (by decide +kernel)
theorem tw_789 : Cond.methodLink RX9 (290 : Nat) yX4_fewestFor ∈ gT := gT_t (List.mem_of_getElem? (i := 789) (by decide +kernel)) (by decide +kernel)
theorem tw_790 : Cond.instanceMethod yX4_fewestFor ∈ gT := gT_t (List.mem_of_getElem? (i := 790) (by decide +kernel)) (by decide +kernel)
theorem tw_791 : Cond.selects RX4 yX4_fewestFor yX4_fewestFor ∈ gT := gT_t (List.mem_of_getElem? (i := 791) (by decide +kernel)) (by decide +kernel)
theorem tw_792 : Cond.code yX4_fewestFor cX4_fewestFor 4 (some .int) ∈ gT := gT_t (List.mem_of_getElem? (i := 792) (by decide +kernel)) (by decide +kernel)
theorem tw_794 : Cond.methodLink RX4 (39 : Nat) yX4_canPlace ∈ gT := gT_t (List.mem_of_getElem? (i := 794) (by decide +kernel)) (by decide +kernel)
theorem tw_796 : Cond.instanceMethod yX4_canPlace ∈ gT := gT_t (List.mem_of_getElem? (i := 796) (by decide +kernel)) (by decide +kernel)
theorem tw_797 : Cond.code yX4_canPlace cX4_canPlace 5 (some .boolean) ∈ gT := gT_t (List.mem_of_getElem? (i := 797) (by decide +kernel)) (by decide +kernel)
theorem tw_811 : Cond.methodLink RX9 (294 : Nat) yX8_settleAll ∈ gT := gT_t (List.mem_of_getElem? (i := 811) (by decide +kernel)) (by decide +kernel)
theorem tw_812 : Cond.instanceMethod yX8_settleAll ∈ gT := gT_t (List.mem_of_getElem? (i := 812) (by decide +kernel)) (by decide +kernel)
theorem tw_813 : Cond.selects RX8 yX8_settleAll yX8_settleAll ∈ gT := gT_t (List.mem_of_getElem? (i := 813) (by decide +kernel)) (by decide +kernel)
theorem tw_814 : Cond.code yX8_settleAll cX8_settleAll 5 (some .int) ∈ gT := gT_t (List.mem_of_getElem? (i := 814) (by decide +kernel)) (by decide +kernel)
theorem tw_819 : Cond.methodLink RX9 (300 : Nat) (⟨"java/lang/System", "arraycopy", "(Ljava/lang/Object;ILjava/lang/Object;II)V"⟩ : MethodName) ∈ gT := gT_t (List.mem_of_getElem? (i := 819) (by decide +kernel)) (by decide +kernel)
theorem tw_886 : Cond.methodLink RX9 (331 : Nat) yX0_read ∈ gT := gT_t (List.mem_of_getElem? (i := 886) (by decide +kernel)) (by decide +kernel)
theorem tw_887 : Cond.instanceMethod yX0_read ∈ gT := gT_t (List.mem_of_getElem? (i := 887) (by decide +kernel)) (by decide +kernel)
theorem tw_888 : Cond.selects RX0 yX0_read yX0_read ∈ gT := gT_t (List.mem_of_getElem? (i := 888) (by decide +kernel)) (by decide +kernel)
theorem tw_889 : Cond.code yX0_read cX0_read 6 none ∈ gT := gT_t (List.mem_of_getElem? (i := 889) (by decide +kernel)) (by decide +kernel)
theorem tw_890 : Cond.methodLink RX0 (28 : Nat) yX7_startText ∈ gT := gT_t (List.mem_of_getElem? (i := 890) (by decide +kernel)) (by decide +kernel)
theorem tw_891 : Cond.methodLink RX0 (34 : Nat) yX7_goesOn ∈ gT := gT_t (List.mem_of_getElem? (i := 891) (by decide +kernel)) (by decide +kernel)
theorem tw_914 : Cond.methodLink RX9 (334 : Nat) yX0_liveIn ∈ gT := gT_t (List.mem_of_getElem? (i := 914) (by decide +kernel)) (by decide +kernel)
theorem tw_915 : Cond.instanceMethod yX0_liveIn ∈ gT := gT_t (List.mem_of_getElem? (i := 915) (by decide +kernel)) (by decide +kernel)
theorem tw_916 : Cond.selects RX0 yX0_liveIn yX0_liveIn ∈ gT := gT_t (List.mem_of_getElem? (i := 916) (by decide +kernel)) (by decide +kernel)
theorem tw_917 : Cond.code yX0_liveIn cX0_liveIn 4 (some .int) ∈ gT := gT_t (List.mem_of_getElem? (i := 917) (by decide +kernel)) (by decide +kernel)
theorem tw_945 : Cond.classLink RX9 (340 : Nat) RX5 ∈ gT := gT_t (List.mem_of_getElem? (i := 945) (by decide +kernel)) (by decide +kernel)
theorem tw_946 : Cond.instantiable RX5 (5 : Nat) ∈ gT := gT_t (List.mem_of_getElem? (i := 946) (by decide +kernel)) (by decide +kernel)
theorem tw_948 : Cond.instanceMethod yX5_init ∈ gT := gT_t (List.mem_of_getElem? (i := 948) (by decide +kernel)) (by decide +kernel)
theorem tw_949 : Cond.code yX5_init cX5_init 1 none ∈ gT := gT_t (List.mem_of_getElem? (i := 949) (by decide +kernel)) (by decide +kernel)
theorem tw_950 : Cond.methodLink RX5 (3 : Nat) (⟨"java/lang/Object", "<init>", "()V"⟩ : MethodName) ∈ gT := gT_t (List.mem_of_getElem? (i := 950) (by decide +kernel)) (by decide +kernel)
theorem tw_951 : Cond.fieldLink RX5 (11 : Nat) "WonderParcels$Sentence" "what" "[I" ∈ gT := gT_t (List.mem_of_getElem? (i := 951) (by decide +kernel)) (by decide +kernel)
theorem tw_952 : Cond.fieldLink RX5 (15 : Nat) "WonderParcels$Sentence" "sign" "[I" ∈ gT := gT_t (List.mem_of_getElem? (i := 952) (by decide +kernel)) (by decide +kernel)
theorem tw_953 : Cond.fieldLink RX5 (18 : Nat) "WonderParcels$Sentence" "value" "[I" ∈ gT := gT_t (List.mem_of_getElem? (i := 953) (by decide +kernel)) (by decide +kernel)
theorem tw_954 : Cond.fieldLink RX5 (21 : Nat) "WonderParcels$Sentence" "steps" "I" ∈ gT := gT_t (List.mem_of_getElem? (i := 954) (by decide +kernel)) (by decide +kernel)
theorem tw_955 : Cond.fieldLink RX5 (25 : Nat) "WonderParcels$Sentence" "ones" "I" ∈ gT := gT_t (List.mem_of_getElem? (i := 955) (by decide +kernel)) (by decide +kernel)
theorem tw_968 : Cond.methodLink RX9 (343 : Nat) yX5_read ∈ gT := gT_t (List.mem_of_getElem? (i := 968) (by decide +kernel)) (by decide +kernel)
theorem tw_969 : Cond.instanceMethod yX5_read ∈ gT := gT_t (List.mem_of_getElem? (i := 969) (by decide +kernel)) (by decide +kernel)
theorem tw_970 : Cond.selects RX5 yX5_read yX5_read ∈ gT := gT_t (List.mem_of_getElem? (i := 970) (by decide +kernel)) (by decide +kernel)
theorem tw_971 : Cond.code yX5_read cX5_read 3 none ∈ gT := gT_t (List.mem_of_getElem? (i := 971) (by decide +kernel)) (by decide +kernel)
theorem tw_972 : Cond.methodLink RX5 (28 : Nat) yX7_startText ∈ gT := gT_t (List.mem_of_getElem? (i := 972) (by decide +kernel)) (by decide +kernel)
theorem tw_973 : Cond.methodLink RX5 (34 : Nat) yX5_readCond ∈ gT := gT_t (List.mem_of_getElem? (i := 973) (by decide +kernel)) (by decide +kernel)
theorem tw_975 : Cond.instanceMethod yX5_readCond ∈ gT := gT_t (List.mem_of_getElem? (i := 975) (by decide +kernel)) (by decide +kernel)
theorem tw_976 : Cond.code yX5_readCond cX5_readCond 7 none ∈ gT := gT_t (List.mem_of_getElem? (i := 976) (by decide +kernel)) (by decide +kernel)
theorem tw_977 : Cond.methodLink RX5 (45 : Nat) yX5_readOne ∈ gT := gT_t (List.mem_of_getElem? (i := 977) (by decide +kernel)) (by decide +kernel)
theorem tw_979 : Cond.instanceMethod yX5_readOne ∈ gT := gT_t (List.mem_of_getElem? (i := 979) (by decide +kernel)) (by decide +kernel)
theorem tw_980 : Cond.code yX5_readOne cX5_readOne 5 none ∈ gT := gT_t (List.mem_of_getElem? (i := 980) (by decide +kernel)) (by decide +kernel)
theorem tw_981 : Cond.methodLink RX5 (42 : Nat) yX7_refuse ∈ gT := gT_t (List.mem_of_getElem? (i := 981) (by decide +kernel)) (by decide +kernel)
theorem tw_994 : Cond.methodLink RX5 (48 : Nat) yX7_sees ∈ gT := gT_t (List.mem_of_getElem? (i := 994) (by decide +kernel)) (by decide +kernel)
theorem tw_995 : Cond.instanceMethod yX7_sees ∈ gT := gT_t (List.mem_of_getElem? (i := 995) (by decide +kernel)) (by decide +kernel)
theorem tw_996 : Cond.selects RX7 yX7_sees yX7_sees ∈ gT := gT_t (List.mem_of_getElem? (i := 996) (by decide +kernel)) (by decide +kernel)
theorem tw_997 : Cond.code yX7_sees cX7_sees 2 (some .boolean) ∈ gT := gT_t (List.mem_of_getElem? (i := 997) (by decide +kernel)) (by decide +kernel)
theorem tw_998 : Cond.methodLink RX5 (38 : Nat) yX7_goesOn ∈ gT := gT_t (List.mem_of_getElem? (i := 998) (by decide +kernel)) (by decide +kernel)
theorem tw_1022 : Cond.methodLink RX9 (351 : Nat) yX2_take ∈ gT := gT_t (List.mem_of_getElem? (i := 1022) (by decide +kernel)) (by decide +kernel)
theorem tw_1023 : Cond.instanceMethod yX2_take ∈ gT := gT_t (List.mem_of_getElem? (i := 1023) (by decide +kernel)) (by decide +kernel)
theorem tw_1024 : Cond.selects RX2 yX2_take yX2_take ∈ gT := gT_t (List.mem_of_getElem? (i := 1024) (by decide +kernel)) (by decide +kernel)
theorem tw_1025 : Cond.code yX2_take cX2_take 3 none ∈ gT := gT_t (List.mem_of_getElem? (i := 1025) (by decide +kernel)) (by decide +kernel)
theorem tw_1026 : Cond.methodLink RX2 (26 : Nat) yX8_takeFrom ∈ gT := gT_t (List.mem_of_getElem? (i := 1026) (by decide +kernel)) (by decide +kernel)
theorem tn_90 : Cond.fieldLinkNest RX9 (100 : Nat) "WonderParcels$Tape" "length" "I" "WonderParcels" ∈ nW := nW_t (List.mem_of_getElem? (i := 90) (by decide +kernel)) (by decide +kernel)
theorem tn_96 : Cond.fieldLinkNest RX5 (59 : Nat) "WonderParcels$Tape" "kind" "I" "WonderParcels" ∈ nW := nW_t (List.mem_of_getElem? (i := 96) (by decide +kernel)) (by decide +kernel)
theorem tn_103 : Cond.fieldLinkNest RX5 (62 : Nat) "WonderParcels$Tape" "fault" "I" "WonderParcels" ∈ nW := nW_t (List.mem_of_getElem? (i := 103) (by decide +kernel)) (by decide +kernel)
theorem tn_106 : Cond.fieldLinkNest RX9 (367 : Nat) "WonderParcels$Tape" "fault" "I" "WonderParcels" ∈ nW := nW_t (List.mem_of_getElem? (i := 106) (by decide +kernel)) (by decide +kernel)
theorem tn_107 : Cond.fieldLinkNest RX9 (110 : Nat) "WonderParcels$Tape" "place" "I" "WonderParcels" ∈ nW := nW_t (List.mem_of_getElem? (i := 107) (by decide +kernel)) (by decide +kernel)
theorem tn_147 : Cond.fieldLinkNest RX9 (337 : Nat) "WonderParcels$Book" "lived" "I" "WonderParcels" ∈ nW := nW_t (List.mem_of_getElem? (i := 147) (by decide +kernel)) (by decide +kernel)
theorem tn_171 : Cond.fieldLinkNest RX9 (293 : Nat) "WonderParcels$Rooms" "room" "[I" "WonderParcels" ∈ nW := nW_t (List.mem_of_getElem? (i := 171) (by decide +kernel)) (by decide +kernel)
theorem tn_186 : Cond.fieldLinkNest RX9 (306 : Nat) "WonderParcels$Tag" "length" "I" "WonderParcels" ∈ nW := nW_t (List.mem_of_getElem? (i := 186) (by decide +kernel)) (by decide +kernel)
theorem tn_202 : Cond.fieldLinkNest RX4 (30 : Nat) "WonderParcels$Post" "many" "[I" "WonderParcels" ∈ nW := nW_t (List.mem_of_getElem? (i := 202) (by decide +kernel)) (by decide +kernel)
theorem tn_204 : Cond.fieldLinkNest RX9 (297 : Nat) "WonderParcels$Post" "many" "[I" "WonderParcels" ∈ nW := nW_t (List.mem_of_getElem? (i := 204) (by decide +kernel)) (by decide +kernel)
theorem tn_215 : Cond.fieldLinkNest RX9 (361 : Nat) "WonderParcels$Post" "leak" "I" "WonderParcels" ∈ nW := nW_t (List.mem_of_getElem? (i := 215) (by decide +kernel)) (by decide +kernel)
theorem tn_218 : Cond.fieldLinkNest RX9 (364 : Nat) "WonderParcels$Post" "guess" "I" "WonderParcels" ∈ nW := nW_t (List.mem_of_getElem? (i := 218) (by decide +kernel)) (by decide +kernel)
theorem tn_248 : Cond.fieldLinkNest RX4 (24 : Nat) "WonderParcels$World" "post" "LWonderParcels$Post;" "WonderParcels" ∈ nW := nW_t (List.mem_of_getElem? (i := 248) (by decide +kernel)) (by decide +kernel)
theorem tn_249 : Cond.fieldLinkNest RX9 (168 : Nat) "WonderParcels$World" "post" "LWonderParcels$Post;" "WonderParcels" ∈ nW := nW_t (List.mem_of_getElem? (i := 249) (by decide +kernel)) (by decide +kernel)
theorem tn_251 : Cond.fieldLinkNest RX9 (192 : Nat) "WonderParcels$World" "day" "I" "WonderParcels" ∈ nW := nW_t (List.mem_of_getElem? (i := 251) (by decide +kernel)) (by decide +kernel)
theorem tn_258 : Cond.fieldLinkNest RX9 (149 : Nat) "WonderParcels$World" "bulge" "[I" "WonderParcels" ∈ nW := nW_t (List.mem_of_getElem? (i := 258) (by decide +kernel)) (by decide +kernel)
theorem tn_263 : Cond.fieldLinkNest RX9 (155 : Nat) "WonderParcels$World" "turned" "[I" "WonderParcels" ∈ nW := nW_t (List.mem_of_getElem? (i := 263) (by decide +kernel)) (by decide +kernel)
theorem tn_269 : Cond.fieldLinkNest RX9 (175 : Nat) "WonderParcels$World" "seat" "[I" "WonderParcels" ∈ nW := nW_t (List.mem_of_getElem? (i := 269) (by decide +kernel)) (by decide +kernel)
theorem tn_337 : Cond.fieldLinkNest RX9 (355 : Nat) "WonderParcels$Image" "taken" "Z" "WonderParcels" ∈ nW := nW_t (List.mem_of_getElem? (i := 337) (by decide +kernel)) (by decide +kernel)
theorem tn_947 : Cond.methodLinkNest RX9 (342 : Nat) yX5_init "WonderParcels" ∈ nW := nW_t (List.mem_of_getElem? (i := 947) (by decide +kernel)) (by decide +kernel)
theorem ts_9 : Cond.selects RX9 yX9_noteFault yX9_noteFault ∈ gT := gT_s (by decide +kernel) (by decide +kernel)
theorem ts_10 : Cond.selects RX9 yX9_isOf yX9_isOf ∈ gT := gT_s (by decide +kernel) (by decide +kernel)
theorem ts_17 : Cond.selects RX9 yX9_keptIfSome yX9_keptIfSome ∈ gT := gT_s (by decide +kernel) (by decide +kernel)
theorem ts_20 : Cond.selects RX4 yX4_canPlace yX4_canPlace ∈ gT := gT_s (by decide +kernel) (by decide +kernel)
theorem ts_31 : Cond.selects RX5 yX5_readCond yX5_readCond ∈ gT := gT_s (by decide +kernel) (by decide +kernel)
theorem ts_32 : Cond.selects RX5 yX5_readOne yX5_readOne ∈ gT := gT_s (by decide +kernel) (by decide +kernel)
theorem dX0_liveIn_0 : decode cX0_liveIn 0 = .ok (.aload_n 0, 1) := by decide +kernel
theorem dX0_liveIn_1 : decode cX0_liveIn 1 = .ok (.iconst 0, 1) := by decide +kernel
theorem dX0_liveIn_2 : decode cX0_liveIn 2 = .ok (.putfield 25, 3) := by decide +kernel
theorem dX0_liveIn_5 : decode cX0_liveIn 5 = .ok (.iconst 0, 1) := by decide +kernel
theorem dX0_liveIn_6 : decode cX0_liveIn 6 = .ok (.istore_n 2, 1) := by decide +kernel
theorem dX0_liveIn_7 : decode cX0_liveIn 7 = .ok (.iload_n 2, 1) := by decide +kernel
theorem dX0_liveIn_8 : decode cX0_liveIn 8 = .ok (.aload_n 0, 1) := by decide +kernel
theorem dX0_liveIn_9 : decode cX0_liveIn 9 = .ok (.getfield 21, 3) := by decide +kernel
theorem dX0_liveIn_12 : decode cX0_liveIn 12 = .ok (.if_icmp .ge 32, 3) := by decide +kernel
theorem dX0_liveIn_44 : decode cX0_liveIn 44 = .ok (.iconst 0, 1) := by decide +kernel
theorem dX0_liveIn_45 : decode cX0_liveIn 45 = .ok (.ireturn, 1) := by decide +kernel
theorem dX0_read_0 : decode cX0_read 0 = .ok (.aload_n 1, 1) := by decide +kernel
theorem dX0_read_1 : decode cX0_read 1 = .ok (.sipush 400, 3) := by decide +kernel
theorem dX0_read_4 : decode cX0_read 4 = .ok (.invokevirtual 28, 3) := by decide +kernel
theorem dX0_read_7 : decode cX0_read 7 = .ok (.aload_n 0, 1) := by decide +kernel
theorem dX0_read_8 : decode cX0_read 8 = .ok (.iconst 0, 1) := by decide +kernel
theorem dX0_read_9 : decode cX0_read 9 = .ok (.putfield 21, 3) := by decide +kernel
theorem dX0_read_12 : decode cX0_read 12 = .ok (.iconst 0, 1) := by decide +kernel
theorem dX0_read_13 : decode cX0_read 13 = .ok (.istore_n 3, 1) := by decide +kernel
theorem dX0_read_14 : decode cX0_read 14 = .ok (.iload_n 3, 1) := by decide +kernel
theorem dX0_read_15 : decode cX0_read 15 = .ok (.bipush 40, 2) := by decide +kernel
theorem dX0_read_17 : decode cX0_read 17 = .ok (.if_icmp .gt 82, 3) := by decide +kernel
theorem dX0_read_20 : decode cX0_read 20 = .ok (.aload_n 1, 1) := by decide +kernel
theorem dX0_read_21 : decode cX0_read 21 = .ok (.invokevirtual 34, 3) := by decide +kernel
theorem dX0_read_24 : decode cX0_read 24 = .ok (.ifCond .eq 75, 3) := by decide +kernel
theorem dX0_read_99 : decode cX0_read 99 = .ok (.return_, 1) := by decide +kernel
theorem dX2_take_0 : decode cX2_take 0 = .ok (.aload_n 0, 1) := by decide +kernel
theorem dX2_take_1 : decode cX2_take 1 = .ok (.getfield 22, 3) := by decide +kernel
theorem dX2_take_4 : decode cX2_take 4 = .ok (.aload_n 1, 1) := by decide +kernel
theorem dX2_take_5 : decode cX2_take 5 = .ok (.invokevirtual 26, 3) := by decide +kernel
theorem dX2_take_8 : decode cX2_take 8 = .ok (.aload_n 0, 1) := by decide +kernel
theorem dX2_take_9 : decode cX2_take 9 = .ok (.aload_n 2, 1) := by decide +kernel
theorem dX2_take_10 : decode cX2_take 10 = .ok (.putfield 7, 3) := by decide +kernel
theorem dX2_take_13 : decode cX2_take 13 = .ok (.aload_n 0, 1) := by decide +kernel
theorem dX2_take_14 : decode cX2_take 14 = .ok (.iconst 1, 1) := by decide +kernel
theorem dX2_take_15 : decode cX2_take 15 = .ok (.putfield 13, 3) := by decide +kernel
theorem dX2_take_18 : decode cX2_take 18 = .ok (.return_, 1) := by decide +kernel
theorem dX3_read_0 : decode cX3_read 0 = .ok (.aload_n 2, 1) := by decide +kernel
theorem dX3_read_1 : decode cX3_read 1 = .ok (.aload_n 0, 1) := by decide +kernel
theorem dX3_read_2 : decode cX3_read 2 = .ok (.invokevirtual 45, 3) := by decide +kernel
theorem dX3_read_5 : decode cX3_read 5 = .ok (.aload_n 1, 1) := by decide +kernel
theorem dX3_read_6 : decode cX3_read 6 = .ok (.sipush 900, 3) := by decide +kernel
theorem dX3_read_9 : decode cX3_read 9 = .ok (.invokevirtual 51, 3) := by decide +kernel
theorem dX3_read_12 : decode cX3_read 12 = .ok (.iconst 0, 1) := by decide +kernel
theorem dX3_read_13 : decode cX3_read 13 = .ok (.istore_n 3, 1) := by decide +kernel
theorem dX3_read_14 : decode cX3_read 14 = .ok (.iload_n 3, 1) := by decide +kernel
theorem dX3_read_15 : decode cX3_read 15 = .ok (.sipush 900, 3) := by decide +kernel
theorem dX3_read_18 : decode cX3_read 18 = .ok (.if_icmp .ge 153, 3) := by decide +kernel
theorem dX3_read_21 : decode cX3_read 21 = .ok (.aload_n 1, 1) := by decide +kernel
theorem dX3_read_22 : decode cX3_read 22 = .ok (.invokevirtual 57, 3) := by decide +kernel
theorem dX3_read_25 : decode cX3_read 25 = .ok (.ifCond .eq 146, 3) := by decide +kernel
theorem dX3_read_171 : decode cX3_read 171 = .ok (.iload_n 3, 1) := by decide +kernel
theorem dX3_read_172 : decode cX3_read 172 = .ok (.ireturn, 1) := by decide +kernel
theorem dX4_canPlace_0 : decode cX4_canPlace 0 = .ok (.iload_n 2, 1) := by decide +kernel
theorem dX4_canPlace_1 : decode cX4_canPlace 1 = .ok (.aload_n 1, 1) := by decide +kernel
theorem dX4_canPlace_2 : decode cX4_canPlace 2 = .ok (.getfield 30, 3) := by decide +kernel
theorem dX4_canPlace_5 : decode cX4_canPlace 5 = .ok (.iconst 2, 1) := by decide +kernel
theorem dX4_canPlace_6 : decode cX4_canPlace 6 = .ok (.iaload, 1) := by decide +kernel
theorem dX4_canPlace_7 : decode cX4_canPlace 7 = .ok (.if_icmp .ge 12, 3) := by decide +kernel
theorem dX4_canPlace_19 : decode cX4_canPlace 19 = .ok (.iconst 1, 1) := by decide +kernel
theorem dX4_canPlace_20 : decode cX4_canPlace 20 = .ok (.ireturn, 1) := by decide +kernel
theorem dX4_fewestFor_0 : decode cX4_fewestFor 0 = .ok (.aload_n 1, 1) := by decide +kernel
theorem dX4_fewestFor_1 : decode cX4_fewestFor 1 = .ok (.getfield 24, 3) := by decide +kernel
theorem dX4_fewestFor_4 : decode cX4_fewestFor 4 = .ok (.getfield 30, 3) := by decide +kernel
theorem dX4_fewestFor_7 : decode cX4_fewestFor 7 = .ok (.iconst 2, 1) := by decide +kernel
theorem dX4_fewestFor_8 : decode cX4_fewestFor 8 = .ok (.iaload, 1) := by decide +kernel
theorem dX4_fewestFor_9 : decode cX4_fewestFor 9 = .ok (.istore_n 2, 1) := by decide +kernel
theorem dX4_fewestFor_10 : decode cX4_fewestFor 10 = .ok (.aload_n 0, 1) := by decide +kernel
theorem dX4_fewestFor_11 : decode cX4_fewestFor 11 = .ok (.getfield 15, 3) := by decide +kernel
theorem dX4_fewestFor_14 : decode cX4_fewestFor 14 = .ok (.iconst (-1), 1) := by decide +kernel
theorem dX4_fewestFor_15 : decode cX4_fewestFor 15 = .ok (.invokestatic 18, 3) := by decide +kernel
theorem dX4_fewestFor_18 : decode cX4_fewestFor 18 = .ok (.iconst 0, 1) := by decide +kernel
theorem dX4_fewestFor_19 : decode cX4_fewestFor 19 = .ok (.istore_n 3, 1) := by decide +kernel
theorem dX4_fewestFor_20 : decode cX4_fewestFor 20 = .ok (.iload_n 3, 1) := by decide +kernel
theorem dX4_fewestFor_21 : decode cX4_fewestFor 21 = .ok (.iload_n 2, 1) := by decide +kernel
theorem dX4_fewestFor_22 : decode cX4_fewestFor 22 = .ok (.if_icmp .ge 20, 3) := by decide +kernel
theorem dX4_fewestFor_42 : decode cX4_fewestFor 42 = .ok (.iconst 0, 1) := by decide +kernel
theorem dX4_fewestFor_43 : decode cX4_fewestFor 43 = .ok (.istore_n 3, 1) := by decide +kernel
theorem dX4_fewestFor_44 : decode cX4_fewestFor 44 = .ok (.aload_n 0, 1) := by decide +kernel
theorem dX4_fewestFor_45 : decode cX4_fewestFor 45 = .ok (.aload_n 1, 1) := by decide +kernel
theorem dX4_fewestFor_46 : decode cX4_fewestFor 46 = .ok (.getfield 24, 3) := by decide +kernel
theorem dX4_fewestFor_49 : decode cX4_fewestFor 49 = .ok (.iconst 0, 1) := by decide +kernel
theorem dX4_fewestFor_50 : decode cX4_fewestFor 50 = .ok (.iload_n 3, 1) := by decide +kernel
theorem dX4_fewestFor_51 : decode cX4_fewestFor 51 = .ok (.invokevirtual 39, 3) := by decide +kernel
theorem dX4_fewestFor_54 : decode cX4_fewestFor 54 = .ok (.ifCond .ne 14, 3) := by decide +kernel
theorem dX4_fewestFor_68 : decode cX4_fewestFor 68 = .ok (.iload_n 3, 1) := by decide +kernel
theorem dX4_fewestFor_69 : decode cX4_fewestFor 69 = .ok (.ireturn, 1) := by decide +kernel
theorem dX5_init_0 : decode cX5_init 0 = .ok (.aload_n 0, 1) := by decide +kernel
theorem dX5_init_1 : decode cX5_init 1 = .ok (.invokespecial 3, 3) := by decide +kernel
theorem dX5_init_4 : decode cX5_init 4 = .ok (.aload_n 0, 1) := by decide +kernel
theorem dX5_init_5 : decode cX5_init 5 = .ok (.bipush 40, 2) := by decide +kernel
theorem dX5_init_7 : decode cX5_init 7 = .ok (.newarray .int, 2) := by decide +kernel
theorem dX5_init_9 : decode cX5_init 9 = .ok (.putfield 11, 3) := by decide +kernel
theorem dX5_init_12 : decode cX5_init 12 = .ok (.aload_n 0, 1) := by decide +kernel
theorem dX5_init_13 : decode cX5_init 13 = .ok (.bipush 40, 2) := by decide +kernel
theorem dX5_init_15 : decode cX5_init 15 = .ok (.newarray .int, 2) := by decide +kernel
theorem dX5_init_17 : decode cX5_init 17 = .ok (.putfield 15, 3) := by decide +kernel
theorem dX5_init_20 : decode cX5_init 20 = .ok (.aload_n 0, 1) := by decide +kernel
theorem dX5_init_21 : decode cX5_init 21 = .ok (.bipush 40, 2) := by decide +kernel
theorem dX5_init_23 : decode cX5_init 23 = .ok (.newarray .int, 2) := by decide +kernel
theorem dX5_init_25 : decode cX5_init 25 = .ok (.putfield 18, 3) := by decide +kernel
theorem dX5_init_28 : decode cX5_init 28 = .ok (.aload_n 0, 1) := by decide +kernel
theorem dX5_init_29 : decode cX5_init 29 = .ok (.iconst 0, 1) := by decide +kernel
theorem dX5_init_30 : decode cX5_init 30 = .ok (.putfield 21, 3) := by decide +kernel
theorem dX5_init_33 : decode cX5_init 33 = .ok (.aload_n 0, 1) := by decide +kernel
theorem dX5_init_34 : decode cX5_init 34 = .ok (.iconst 0, 1) := by decide +kernel
theorem dX5_init_35 : decode cX5_init 35 = .ok (.putfield 25, 3) := by decide +kernel
theorem dX5_init_38 : decode cX5_init 38 = .ok (.return_, 1) := by decide +kernel
theorem dX5_read_0 : decode cX5_read 0 = .ok (.aload_n 1, 1) := by decide +kernel
theorem dX5_read_1 : decode cX5_read 1 = .ok (.sipush 200, 3) := by decide +kernel
theorem dX5_read_4 : decode cX5_read 4 = .ok (.invokevirtual 28, 3) := by decide +kernel
theorem dX5_read_7 : decode cX5_read 7 = .ok (.aload_n 0, 1) := by decide +kernel
theorem dX5_read_8 : decode cX5_read 8 = .ok (.aload_n 1, 1) := by decide +kernel
theorem dX5_read_9 : decode cX5_read 9 = .ok (.aload_n 2, 1) := by decide +kernel
theorem dX5_read_10 : decode cX5_read 10 = .ok (.iconst 1, 1) := by decide +kernel
theorem dX5_read_11 : decode cX5_read 11 = .ok (.invokevirtual 34, 3) := by decide +kernel
theorem dX5_read_14 : decode cX5_read 14 = .ok (.aload_n 1, 1) := by decide +kernel
theorem dX5_read_15 : decode cX5_read 15 = .ok (.invokevirtual 38, 3) := by decide +kernel
theorem dX5_read_18 : decode cX5_read 18 = .ok (.ifCond .eq 8, 3) := by decide +kernel
theorem dX5_read_26 : decode cX5_read 26 = .ok (.return_, 1) := by decide +kernel
theorem dX5_readCond_0 : decode cX5_readCond 0 = .ok (.iconst 0, 1) := by decide +kernel
theorem dX5_readCond_1 : decode cX5_readCond 1 = .ok (.istore 4, 2) := by decide +kernel
theorem dX5_readCond_3 : decode cX5_readCond 3 = .ok (.aload_n 0, 1) := by decide +kernel
theorem dX5_readCond_4 : decode cX5_readCond 4 = .ok (.aload_n 1, 1) := by decide +kernel
theorem dX5_readCond_5 : decode cX5_readCond 5 = .ok (.aload_n 2, 1) := by decide +kernel
theorem dX5_readCond_6 : decode cX5_readCond 6 = .ok (.iload_n 3, 1) := by decide +kernel
theorem dX5_readCond_7 : decode cX5_readCond 7 = .ok (.invokevirtual 45, 3) := by decide +kernel
theorem dX5_readCond_10 : decode cX5_readCond 10 = .ok (.iconst 0, 1) := by decide +kernel
theorem dX5_readCond_11 : decode cX5_readCond 11 = .ok (.istore 5, 2) := by decide +kernel
theorem dX5_readCond_13 : decode cX5_readCond 13 = .ok (.iload 5, 2) := by decide +kernel
theorem dX5_readCond_15 : decode cX5_readCond 15 = .ok (.bipush 20, 2) := by decide +kernel
theorem dX5_readCond_17 : decode cX5_readCond 17 = .ok (.if_icmp .ge 89, 3) := by decide +kernel
theorem dX5_readCond_20 : decode cX5_readCond 20 = .ok (.aload_n 1, 1) := by decide +kernel
theorem dX5_readCond_21 : decode cX5_readCond 21 = .ok (.sipush 144, 3) := by decide +kernel
theorem dX5_readCond_24 : decode cX5_readCond 24 = .ok (.invokevirtual 48, 3) := by decide +kernel
theorem dX5_readCond_27 : decode cX5_readCond 27 = .ok (.ifCond .ne 13, 3) := by decide +kernel
theorem dX5_readCond_30 : decode cX5_readCond 30 = .ok (.aload_n 1, 1) := by decide +kernel
theorem dX5_readCond_31 : decode cX5_readCond 31 = .ok (.sipush 145, 3) := by decide +kernel
theorem dX5_readCond_34 : decode cX5_readCond 34 = .ok (.invokevirtual 48, 3) := by decide +kernel
theorem dX5_readCond_37 : decode cX5_readCond 37 = .ok (.ifCond .eq 69, 3) := by decide +kernel
theorem dX5_readCond_106 : decode cX5_readCond 106 = .ok (.iload 4, 2) := by decide +kernel
theorem dX5_readCond_108 : decode cX5_readCond 108 = .ok (.ifCond .eq 12, 3) := by decide +kernel
theorem dX5_readCond_120 : decode cX5_readCond 120 = .ok (.return_, 1) := by decide +kernel
theorem dX5_readOne_0 : decode cX5_readOne 0 = .ok (.aload_n 1, 1) := by decide +kernel
theorem dX5_readOne_1 : decode cX5_readOne 1 = .ok (.getfield 59, 3) := by decide +kernel
theorem dX5_readOne_4 : decode cX5_readOne 4 = .ok (.istore 4, 2) := by decide +kernel
theorem dX5_readOne_6 : decode cX5_readOne 6 = .ok (.iload 4, 2) := by decide +kernel
theorem dX5_readOne_8 : decode cX5_readOne 8 = .ok (.bipush 40, 2) := by decide +kernel
theorem dX5_readOne_10 : decode cX5_readOne 10 = .ok (.if_icmp .eq 27, 3) := by decide +kernel
theorem dX5_readOne_13 : decode cX5_readOne 13 = .ok (.iload 4, 2) := by decide +kernel
theorem dX5_readOne_15 : decode cX5_readOne 15 = .ok (.sipush 146, 3) := by decide +kernel
theorem dX5_readOne_18 : decode cX5_readOne 18 = .ok (.if_icmp .lt 11, 3) := by decide +kernel
theorem dX5_readOne_29 : decode cX5_readOne 29 = .ok (.aload_n 1, 1) := by decide +kernel
theorem dX5_readOne_30 : decode cX5_readOne 30 = .ok (.iconst 1, 1) := by decide +kernel
theorem dX5_readOne_31 : decode cX5_readOne 31 = .ok (.invokevirtual 42, 3) := by decide +kernel
theorem dX5_readOne_34 : decode cX5_readOne 34 = .ok (.goto 23, 3) := by decide +kernel
theorem dX5_readOne_57 : decode cX5_readOne 57 = .ok (.aload_n 1, 1) := by decide +kernel
theorem dX5_readOne_58 : decode cX5_readOne 58 = .ok (.getfield 62, 3) := by decide +kernel
theorem dX5_readOne_61 : decode cX5_readOne 61 = .ok (.ifCond .eq 4, 3) := by decide +kernel
theorem dX5_readOne_64 : decode cX5_readOne 64 = .ok (.return_, 1) := by decide +kernel
theorem dX9_ask_0 : decode cX9_ask 0 = .ok (.aload_n 0, 1) := by decide +kernel
theorem dX9_ask_1 : decode cX9_ask 1 = .ok (.getfield 54, 3) := by decide +kernel
theorem dX9_ask_4 : decode cX9_ask 4 = .ok (.ireturn, 1) := by decide +kernel
theorem dX9_book_0 : decode cX9_book 0 = .ok (.iload_n 1, 1) := by decide +kernel
theorem dX9_book_1 : decode cX9_book 1 = .ok (.ifCond .eq 12, 3) := by decide +kernel
theorem dX9_book_4 : decode cX9_book 4 = .ok (.iload_n 1, 1) := by decide +kernel
theorem dX9_book_5 : decode cX9_book 5 = .ok (.iconst 1, 1) := by decide +kernel
theorem dX9_book_6 : decode cX9_book 6 = .ok (.if_icmp .eq 7, 3) := by decide +kernel
theorem dX9_book_9 : decode cX9_book 9 = .ok (.sipush (-1000), 3) := by decide +kernel
theorem dX9_book_12 : decode cX9_book 12 = .ok (.ireturn, 1) := by decide +kernel
theorem dX9_book_13 : decode cX9_book 13 = .ok (.aload_n 0, 1) := by decide +kernel
theorem dX9_book_14 : decode cX9_book 14 = .ok (.getfield 19, 3) := by decide +kernel
theorem dX9_book_17 : decode cX9_book 17 = .ok (.aload_n 0, 1) := by decide +kernel
theorem dX9_book_18 : decode cX9_book 18 = .ok (.getfield 10, 3) := by decide +kernel
theorem dX9_book_21 : decode cX9_book 21 = .ok (.aload_n 0, 1) := by decide +kernel
theorem dX9_book_22 : decode cX9_book 22 = .ok (.getfield 65, 3) := by decide +kernel
theorem dX9_book_25 : decode cX9_book 25 = .ok (.getfield 168, 3) := by decide +kernel
theorem dX9_book_28 : decode cX9_book 28 = .ok (.invokevirtual 331, 3) := by decide +kernel
theorem dX9_book_31 : decode cX9_book 31 = .ok (.aload_n 0, 1) := by decide +kernel
theorem dX9_book_32 : decode cX9_book 32 = .ok (.invokevirtual 107, 3) := by decide +kernel
theorem dX9_book_35 : decode cX9_book 35 = .ok (.aload_n 0, 1) := by decide +kernel
theorem dX9_book_36 : decode cX9_book 36 = .ok (.getfield 44, 3) := by decide +kernel
theorem dX9_book_39 : decode cX9_book 39 = .ok (.ifCond .eq 14, 3) := by decide +kernel
theorem dX9_book_53 : decode cX9_book 53 = .ok (.aload_n 0, 1) := by decide +kernel
theorem dX9_book_54 : decode cX9_book 54 = .ok (.getfield 69, 3) := by decide +kernel
theorem dX9_book_57 : decode cX9_book 57 = .ok (.aload_n 0, 1) := by decide +kernel
theorem dX9_book_58 : decode cX9_book 58 = .ok (.getfield 65, 3) := by decide +kernel
theorem dX9_book_61 : decode cX9_book 61 = .ok (.invokevirtual 113, 3) := by decide +kernel
theorem dX9_book_64 : decode cX9_book 64 = .ok (.aload_n 0, 1) := by decide +kernel
theorem dX9_book_65 : decode cX9_book 65 = .ok (.getfield 19, 3) := by decide +kernel
theorem dX9_book_68 : decode cX9_book 68 = .ok (.aload_n 0, 1) := by decide +kernel
theorem dX9_book_69 : decode cX9_book 69 = .ok (.getfield 69, 3) := by decide +kernel
theorem dX9_book_72 : decode cX9_book 72 = .ok (.invokevirtual 334, 3) := by decide +kernel
theorem dX9_book_75 : decode cX9_book 75 = .ok (.istore_n 2, 1) := by decide +kernel
theorem dX9_book_76 : decode cX9_book 76 = .ok (.aload_n 0, 1) := by decide +kernel
theorem dX9_book_77 : decode cX9_book 77 = .ok (.getfield 23, 3) := by decide +kernel
theorem dX9_book_80 : decode cX9_book 80 = .ok (.iconst 0, 1) := by decide +kernel
theorem dX9_book_81 : decode cX9_book 81 = .ok (.iload_n 2, 1) := by decide +kernel
theorem dX9_book_82 : decode cX9_book 82 = .ok (.iastore, 1) := by decide +kernel
theorem dX9_book_83 : decode cX9_book 83 = .ok (.aload_n 0, 1) := by decide +kernel
theorem dX9_book_84 : decode cX9_book 84 = .ok (.getfield 23, 3) := by decide +kernel
theorem dX9_book_87 : decode cX9_book 87 = .ok (.iconst 1, 1) := by decide +kernel
theorem dX9_book_88 : decode cX9_book 88 = .ok (.aload_n 0, 1) := by decide +kernel
theorem dX9_book_89 : decode cX9_book 89 = .ok (.getfield 19, 3) := by decide +kernel
theorem dX9_book_92 : decode cX9_book 92 = .ok (.getfield 337, 3) := by decide +kernel
theorem dX9_book_95 : decode cX9_book 95 = .ok (.iastore, 1) := by decide +kernel
theorem dX9_book_96 : decode cX9_book 96 = .ok (.aload_n 0, 1) := by decide +kernel
theorem dX9_book_97 : decode cX9_book 97 = .ok (.getfield 23, 3) := by decide +kernel
theorem dX9_book_100 : decode cX9_book 100 = .ok (.iconst 2, 1) := by decide +kernel
theorem dX9_book_101 : decode cX9_book 101 = .ok (.aload_n 0, 1) := by decide +kernel
theorem dX9_book_102 : decode cX9_book 102 = .ok (.getfield 69, 3) := by decide +kernel
theorem dX9_book_105 : decode cX9_book 105 = .ok (.getfield 192, 3) := by decide +kernel
theorem dX9_book_108 : decode cX9_book 108 = .ok (.iastore, 1) := by decide +kernel
theorem dX9_book_109 : decode cX9_book 109 = .ok (.aload_n 0, 1) := by decide +kernel
theorem dX9_book_110 : decode cX9_book 110 = .ok (.getfield 23, 3) := by decide +kernel
theorem dX9_book_113 : decode cX9_book 113 = .ok (.iconst 3, 1) := by decide +kernel
theorem dX9_book_114 : decode cX9_book 114 = .ok (.aload_n 0, 1) := by decide +kernel
theorem dX9_book_115 : decode cX9_book 115 = .ok (.getfield 69, 3) := by decide +kernel
theorem dX9_book_118 : decode cX9_book 118 = .ok (.invokevirtual 199, 3) := by decide +kernel
theorem dX9_book_121 : decode cX9_book 121 = .ok (.iastore, 1) := by decide +kernel
theorem dX9_book_122 : decode cX9_book 122 = .ok (.iload_n 1, 1) := by decide +kernel
theorem dX9_book_123 : decode cX9_book 123 = .ok (.iconst 1, 1) := by decide +kernel
theorem dX9_book_124 : decode cX9_book 124 = .ok (.if_icmp .ne 32, 3) := by decide +kernel
theorem dX9_book_127 : decode cX9_book 127 = .ok (.aload_n 0, 1) := by decide +kernel
theorem dX9_book_128 : decode cX9_book 128 = .ok (.getfield 75, 3) := by decide +kernel
theorem dX9_book_131 : decode cX9_book 131 = .ok (.aload_n 0, 1) := by decide +kernel
theorem dX9_book_132 : decode cX9_book 132 = .ok (.getfield 65, 3) := by decide +kernel
theorem dX9_book_135 : decode cX9_book 135 = .ok (.invokevirtual 212, 3) := by decide +kernel
theorem dX9_book_138 : decode cX9_book 138 = .ok (.aload_n 0, 1) := by decide +kernel
theorem dX9_book_139 : decode cX9_book 139 = .ok (.getfield 75, 3) := by decide +kernel
theorem dX9_book_142 : decode cX9_book 142 = .ok (.invokevirtual 230, 3) := by decide +kernel
theorem dX9_book_145 : decode cX9_book 145 = .ok (.aload_n 0, 1) := by decide +kernel
theorem dX9_book_146 : decode cX9_book 146 = .ok (.getfield 65, 3) := by decide +kernel
theorem dX9_book_149 : decode cX9_book 149 = .ok (.aload_n 0, 1) := by decide +kernel
theorem dX9_book_150 : decode cX9_book 150 = .ok (.getfield 69, 3) := by decide +kernel
theorem dX9_book_153 : decode cX9_book 153 = .ok (.invokevirtual 113, 3) := by decide +kernel
theorem dX9_book_156 : decode cX9_book 156 = .ok (.iload_n 2, 1) := by decide +kernel
theorem dX9_book_157 : decode cX9_book 157 = .ok (.ifCond .ne 7, 3) := by decide +kernel
theorem dX9_book_160 : decode cX9_book 160 = .ok (.iconst (-1), 1) := by decide +kernel
theorem dX9_book_161 : decode cX9_book 161 = .ok (.goto 10, 3) := by decide +kernel
theorem dX9_book_171 : decode cX9_book 171 = .ok (.ireturn, 1) := by decide +kernel
theorem dX9_byteAt_0 : decode cX9_byteAt 0 = .ok (.iload_n 1, 1) := by decide +kernel
theorem dX9_byteAt_1 : decode cX9_byteAt 1 = .ok (.ifCond .lt 26, 3) := by decide +kernel
theorem dX9_byteAt_4 : decode cX9_byteAt 4 = .ok (.iload_n 1, 1) := by decide +kernel
theorem dX9_byteAt_5 : decode cX9_byteAt 5 = .ok (.aload_n 0, 1) := by decide +kernel
theorem dX9_byteAt_6 : decode cX9_byteAt 6 = .ok (.getfield 40, 3) := by decide +kernel
theorem dX9_byteAt_9 : decode cX9_byteAt 9 = .ok (.getfield 306, 3) := by decide +kernel
theorem dX9_byteAt_12 : decode cX9_byteAt 12 = .ok (.if_icmp .ge 15, 3) := by decide +kernel
theorem dX9_byteAt_27 : decode cX9_byteAt 27 = .ok (.iconst (-1), 1) := by decide +kernel
theorem dX9_byteAt_28 : decode cX9_byteAt 28 = .ok (.ireturn, 1) := by decide +kernel
theorem dX9_carry_0 : decode cX9_carry 0 = .ok (.aload_n 0, 1) := by decide +kernel
theorem dX9_carry_1 : decode cX9_carry 1 = .ok (.iconst 2, 1) := by decide +kernel
theorem dX9_carry_2 : decode cX9_carry 2 = .ok (.iload_n 1, 1) := by decide +kernel
theorem dX9_carry_3 : decode cX9_carry 3 = .ok (.invokevirtual 124, 3) := by decide +kernel
theorem dX9_carry_6 : decode cX9_carry 6 = .ok (.ifCond .eq 12, 3) := by decide +kernel
theorem dX9_carry_18 : decode cX9_carry 18 = .ok (.iconst (-1), 1) := by decide +kernel
theorem dX9_carry_19 : decode cX9_carry 19 = .ok (.ireturn, 1) := by decide +kernel
theorem dX9_count_0 : decode cX9_count 0 = .ok (.iload_n 1, 1) := by decide +kernel
theorem dX9_count_1 : decode cX9_count 1 = .ok (.tableswitch 125 0 6 #[43, 56, 69, 82, 95, 106, 117], 43) := by decide +kernel
theorem dX9_count_44 : decode cX9_count 44 = .ok (.aload_n 0, 1) := by decide +kernel
theorem dX9_count_45 : decode cX9_count 45 = .ok (.getfield 65, 3) := by decide +kernel
theorem dX9_count_48 : decode cX9_count 48 = .ok (.getfield 168, 3) := by decide +kernel
theorem dX9_count_51 : decode cX9_count 51 = .ok (.getfield 297, 3) := by decide +kernel
theorem dX9_count_54 : decode cX9_count 54 = .ok (.iconst 0, 1) := by decide +kernel
theorem dX9_count_55 : decode cX9_count 55 = .ok (.iaload, 1) := by decide +kernel
theorem dX9_count_56 : decode cX9_count 56 = .ok (.ireturn, 1) := by decide +kernel
theorem dX9_count_57 : decode cX9_count 57 = .ok (.aload_n 0, 1) := by decide +kernel
theorem dX9_count_58 : decode cX9_count 58 = .ok (.getfield 65, 3) := by decide +kernel
theorem dX9_count_61 : decode cX9_count 61 = .ok (.getfield 168, 3) := by decide +kernel
theorem dX9_count_64 : decode cX9_count 64 = .ok (.getfield 297, 3) := by decide +kernel
theorem dX9_count_67 : decode cX9_count 67 = .ok (.iconst 1, 1) := by decide +kernel
theorem dX9_count_68 : decode cX9_count 68 = .ok (.iaload, 1) := by decide +kernel
theorem dX9_count_69 : decode cX9_count 69 = .ok (.ireturn, 1) := by decide +kernel
theorem dX9_count_70 : decode cX9_count 70 = .ok (.aload_n 0, 1) := by decide +kernel
theorem dX9_count_71 : decode cX9_count 71 = .ok (.getfield 65, 3) := by decide +kernel
theorem dX9_count_74 : decode cX9_count 74 = .ok (.getfield 168, 3) := by decide +kernel
theorem dX9_count_77 : decode cX9_count 77 = .ok (.getfield 297, 3) := by decide +kernel
theorem dX9_count_80 : decode cX9_count 80 = .ok (.iconst 2, 1) := by decide +kernel
theorem dX9_count_81 : decode cX9_count 81 = .ok (.iaload, 1) := by decide +kernel
theorem dX9_count_82 : decode cX9_count 82 = .ok (.ireturn, 1) := by decide +kernel
theorem dX9_count_83 : decode cX9_count 83 = .ok (.aload_n 0, 1) := by decide +kernel
theorem dX9_count_84 : decode cX9_count 84 = .ok (.getfield 65, 3) := by decide +kernel
theorem dX9_count_87 : decode cX9_count 87 = .ok (.getfield 168, 3) := by decide +kernel
theorem dX9_count_90 : decode cX9_count 90 = .ok (.getfield 297, 3) := by decide +kernel
theorem dX9_count_93 : decode cX9_count 93 = .ok (.iconst 3, 1) := by decide +kernel
theorem dX9_count_94 : decode cX9_count 94 = .ok (.iaload, 1) := by decide +kernel
theorem dX9_count_95 : decode cX9_count 95 = .ok (.ireturn, 1) := by decide +kernel
theorem dX9_count_96 : decode cX9_count 96 = .ok (.aload_n 0, 1) := by decide +kernel
theorem dX9_count_97 : decode cX9_count 97 = .ok (.getfield 65, 3) := by decide +kernel
theorem dX9_count_100 : decode cX9_count 100 = .ok (.getfield 168, 3) := by decide +kernel
theorem dX9_count_103 : decode cX9_count 103 = .ok (.getfield 361, 3) := by decide +kernel
theorem dX9_count_106 : decode cX9_count 106 = .ok (.ireturn, 1) := by decide +kernel
theorem dX9_count_107 : decode cX9_count 107 = .ok (.aload_n 0, 1) := by decide +kernel
theorem dX9_count_108 : decode cX9_count 108 = .ok (.getfield 65, 3) := by decide +kernel
theorem dX9_count_111 : decode cX9_count 111 = .ok (.getfield 168, 3) := by decide +kernel
theorem dX9_count_114 : decode cX9_count 114 = .ok (.getfield 364, 3) := by decide +kernel
theorem dX9_count_117 : decode cX9_count 117 = .ok (.ireturn, 1) := by decide +kernel
theorem dX9_count_118 : decode cX9_count 118 = .ok (.aload_n 0, 1) := by decide +kernel
theorem dX9_count_119 : decode cX9_count 119 = .ok (.getfield 10, 3) := by decide +kernel
theorem dX9_count_122 : decode cX9_count 122 = .ok (.getfield 100, 3) := by decide +kernel
theorem dX9_count_125 : decode cX9_count 125 = .ok (.ireturn, 1) := by decide +kernel
theorem dX9_count_126 : decode cX9_count 126 = .ok (.iconst (-1), 1) := by decide +kernel
theorem dX9_count_127 : decode cX9_count 127 = .ok (.ireturn, 1) := by decide +kernel
theorem dX9_days_0 : decode cX9_days 0 = .ok (.iload_n 1, 1) := by decide +kernel
theorem dX9_days_1 : decode cX9_days 1 = .ok (.iconst 1, 1) := by decide +kernel
theorem dX9_days_2 : decode cX9_days 2 = .ok (.if_icmp .lt 9, 3) := by decide +kernel
theorem dX9_days_5 : decode cX9_days 5 = .ok (.iload_n 1, 1) := by decide +kernel
theorem dX9_days_6 : decode cX9_days 6 = .ok (.bipush 60, 2) := by decide +kernel
theorem dX9_days_8 : decode cX9_days 8 = .ok (.if_icmp .le 5, 3) := by decide +kernel
theorem dX9_days_11 : decode cX9_days 11 = .ok (.iconst (-1), 1) := by decide +kernel
theorem dX9_days_12 : decode cX9_days 12 = .ok (.ireturn, 1) := by decide +kernel
theorem dX9_days_13 : decode cX9_days 13 = .ok (.aload_n 0, 1) := by decide +kernel
theorem dX9_days_14 : decode cX9_days 14 = .ok (.getfield 75, 3) := by decide +kernel
theorem dX9_days_17 : decode cX9_days 17 = .ok (.aload_n 0, 1) := by decide +kernel
theorem dX9_days_18 : decode cX9_days 18 = .ok (.getfield 65, 3) := by decide +kernel
theorem dX9_days_21 : decode cX9_days 21 = .ok (.invokevirtual 212, 3) := by decide +kernel
theorem dX9_days_24 : decode cX9_days 24 = .ok (.aload_n 0, 1) := by decide +kernel
theorem dX9_days_25 : decode cX9_days 25 = .ok (.aload_n 0, 1) := by decide +kernel
theorem dX9_days_26 : decode cX9_days 26 = .ok (.getfield 65, 3) := by decide +kernel
theorem dX9_days_29 : decode cX9_days 29 = .ok (.iload_n 1, 1) := by decide +kernel
theorem dX9_days_30 : decode cX9_days 30 = .ok (.invokevirtual 242, 3) := by decide +kernel
theorem dX9_days_33 : decode cX9_days 33 = .ok (.invokevirtual 245, 3) := by decide +kernel
theorem dX9_days_36 : decode cX9_days 36 = .ok (.ireturn, 1) := by decide +kernel
theorem dX9_drawn_0 : decode cX9_drawn 0 = .ok (.iload_n 1, 1) := by decide +kernel
theorem dX9_drawn_1 : decode cX9_drawn 1 = .ok (.iconst 1, 1) := by decide +kernel
theorem dX9_drawn_2 : decode cX9_drawn 2 = .ok (.if_icmp .lt 24, 3) := by decide +kernel
theorem dX9_drawn_5 : decode cX9_drawn 5 = .ok (.iload_n 1, 1) := by decide +kernel
theorem dX9_drawn_6 : decode cX9_drawn 6 = .ok (.bipush 60, 2) := by decide +kernel
theorem dX9_drawn_8 : decode cX9_drawn 8 = .ok (.if_icmp .gt 18, 3) := by decide +kernel
theorem dX9_drawn_11 : decode cX9_drawn 11 = .ok (.aload_n 0, 1) := by decide +kernel
theorem dX9_drawn_12 : decode cX9_drawn 12 = .ok (.getfield 65, 3) := by decide +kernel
theorem dX9_drawn_15 : decode cX9_drawn 15 = .ok (.getfield 168, 3) := by decide +kernel
theorem dX9_drawn_18 : decode cX9_drawn 18 = .ok (.getfield 297, 3) := by decide +kernel
theorem dX9_drawn_21 : decode cX9_drawn 21 = .ok (.iconst 3, 1) := by decide +kernel
theorem dX9_drawn_22 : decode cX9_drawn 22 = .ok (.iaload, 1) := by decide +kernel
theorem dX9_drawn_23 : decode cX9_drawn 23 = .ok (.ifCond .ne 5, 3) := by decide +kernel
theorem dX9_drawn_26 : decode cX9_drawn 26 = .ok (.iconst (-1), 1) := by decide +kernel
theorem dX9_drawn_27 : decode cX9_drawn 27 = .ok (.ireturn, 1) := by decide +kernel
theorem dX9_end_0 : decode cX9_end 0 = .ok (.iload_n 1, 1) := by decide +kernel
theorem dX9_end_1 : decode cX9_end 1 = .ok (.ifCond .lt 14, 3) := by decide +kernel
theorem dX9_end_4 : decode cX9_end 4 = .ok (.iload_n 1, 1) := by decide +kernel
theorem dX9_end_5 : decode cX9_end 5 = .ok (.aload_n 0, 1) := by decide +kernel
theorem dX9_end_6 : decode cX9_end 6 = .ok (.getfield 10, 3) := by decide +kernel
theorem dX9_end_9 : decode cX9_end 9 = .ok (.getfield 100, 3) := by decide +kernel
theorem dX9_end_12 : decode cX9_end 12 = .ok (.if_icmp .le 5, 3) := by decide +kernel
theorem dX9_end_15 : decode cX9_end 15 = .ok (.iconst 0, 1) := by decide +kernel
theorem dX9_end_16 : decode cX9_end 16 = .ok (.ireturn, 1) := by decide +kernel
theorem dX9_end_17 : decode cX9_end 17 = .ok (.aload_n 0, 1) := by decide +kernel
theorem dX9_end_18 : decode cX9_end 18 = .ok (.getfield 10, 3) := by decide +kernel
theorem dX9_end_21 : decode cX9_end 21 = .ok (.iload_n 1, 1) := by decide +kernel
theorem dX9_end_22 : decode cX9_end 22 = .ok (.putfield 100, 3) := by decide +kernel
theorem dX9_end_25 : decode cX9_end 25 = .ok (.iconst 1, 1) := by decide +kernel
theorem dX9_end_26 : decode cX9_end 26 = .ok (.ireturn, 1) := by decide +kernel
theorem dX9_fault_0 : decode cX9_fault 0 = .ok (.aload_n 0, 1) := by decide +kernel
theorem dX9_fault_1 : decode cX9_fault 1 = .ok (.getfield 44, 3) := by decide +kernel
theorem dX9_fault_4 : decode cX9_fault 4 = .ok (.ireturn, 1) := by decide +kernel
theorem dX9_feed_0 : decode cX9_feed 0 = .ok (.aload_n 0, 1) := by decide +kernel
theorem dX9_feed_1 : decode cX9_feed 1 = .ok (.getfield 10, 3) := by decide +kernel
theorem dX9_feed_4 : decode cX9_feed 4 = .ok (.invokevirtual 92, 3) := by decide +kernel
theorem dX9_feed_7 : decode cX9_feed 7 = .ok (.ifCond .ne 5, 3) := by decide +kernel
theorem dX9_feed_12 : decode cX9_feed 12 = .ok (.aload_n 0, 1) := by decide +kernel
theorem dX9_feed_13 : decode cX9_feed 13 = .ok (.getfield 10, 3) := by decide +kernel
theorem dX9_feed_16 : decode cX9_feed 16 = .ok (.iload_n 1, 1) := by decide +kernel
theorem dX9_feed_17 : decode cX9_feed 17 = .ok (.invokevirtual 96, 3) := by decide +kernel
theorem dX9_feed_20 : decode cX9_feed 20 = .ok (.aload_n 0, 1) := by decide +kernel
theorem dX9_feed_21 : decode cX9_feed 21 = .ok (.getfield 10, 3) := by decide +kernel
theorem dX9_feed_24 : decode cX9_feed 24 = .ok (.iload_n 2, 1) := by decide +kernel
theorem dX9_feed_25 : decode cX9_feed 25 = .ok (.invokevirtual 96, 3) := by decide +kernel
theorem dX9_feed_28 : decode cX9_feed 28 = .ok (.aload_n 0, 1) := by decide +kernel
theorem dX9_feed_29 : decode cX9_feed 29 = .ok (.getfield 10, 3) := by decide +kernel
theorem dX9_feed_32 : decode cX9_feed 32 = .ok (.iload_n 3, 1) := by decide +kernel
theorem dX9_feed_33 : decode cX9_feed 33 = .ok (.invokevirtual 96, 3) := by decide +kernel
theorem dX9_feed_36 : decode cX9_feed 36 = .ok (.aload_n 0, 1) := by decide +kernel
theorem dX9_feed_37 : decode cX9_feed 37 = .ok (.getfield 10, 3) := by decide +kernel
theorem dX9_feed_40 : decode cX9_feed 40 = .ok (.iload 4, 2) := by decide +kernel
theorem dX9_feed_42 : decode cX9_feed 42 = .ok (.invokevirtual 96, 3) := by decide +kernel
theorem dX9_feed_45 : decode cX9_feed 45 = .ok (.aload_n 0, 1) := by decide +kernel
theorem dX9_feed_46 : decode cX9_feed 46 = .ok (.getfield 10, 3) := by decide +kernel
theorem dX9_feed_49 : decode cX9_feed 49 = .ok (.iload 5, 2) := by decide +kernel
theorem dX9_feed_51 : decode cX9_feed 51 = .ok (.invokevirtual 96, 3) := by decide +kernel
theorem dX9_feed_54 : decode cX9_feed 54 = .ok (.aload_n 0, 1) := by decide +kernel
theorem dX9_feed_55 : decode cX9_feed 55 = .ok (.getfield 10, 3) := by decide +kernel
theorem dX9_feed_58 : decode cX9_feed 58 = .ok (.getfield 100, 3) := by decide +kernel
theorem dX9_feed_61 : decode cX9_feed 61 = .ok (.ireturn, 1) := by decide +kernel
theorem dX9_greatest_0 : decode cX9_greatest 0 = .ok (.iconst (-1), 1) := by decide +kernel
theorem dX9_greatest_1 : decode cX9_greatest 1 = .ok (.istore_n 1, 1) := by decide +kernel
theorem dX9_greatest_2 : decode cX9_greatest 2 = .ok (.iconst 0, 1) := by decide +kernel
theorem dX9_greatest_3 : decode cX9_greatest 3 = .ok (.istore_n 2, 1) := by decide +kernel
theorem dX9_greatest_4 : decode cX9_greatest 4 = .ok (.iload_n 2, 1) := by decide +kernel
theorem dX9_greatest_5 : decode cX9_greatest 5 = .ok (.aload_n 0, 1) := by decide +kernel
theorem dX9_greatest_6 : decode cX9_greatest 6 = .ok (.getfield 65, 3) := by decide +kernel
theorem dX9_greatest_9 : decode cX9_greatest 9 = .ok (.getfield 168, 3) := by decide +kernel
theorem dX9_greatest_12 : decode cX9_greatest 12 = .ok (.getfield 297, 3) := by decide +kernel
theorem dX9_greatest_15 : decode cX9_greatest 15 = .ok (.iconst 2, 1) := by decide +kernel
theorem dX9_greatest_16 : decode cX9_greatest 16 = .ok (.iaload, 1) := by decide +kernel
theorem dX9_greatest_17 : decode cX9_greatest 17 = .ok (.if_icmp .ge 46, 3) := by decide +kernel
theorem dX9_greatest_63 : decode cX9_greatest 63 = .ok (.iload_n 1, 1) := by decide +kernel
theorem dX9_greatest_64 : decode cX9_greatest 64 = .ok (.ireturn, 1) := by decide +kernel
theorem dX9_guess_0 : decode cX9_guess 0 = .ok (.aload_n 0, 1) := by decide +kernel
theorem dX9_guess_1 : decode cX9_guess 1 = .ok (.iconst 3, 1) := by decide +kernel
theorem dX9_guess_2 : decode cX9_guess 2 = .ok (.iload_n 1, 1) := by decide +kernel
theorem dX9_guess_3 : decode cX9_guess 3 = .ok (.invokevirtual 124, 3) := by decide +kernel
theorem dX9_guess_6 : decode cX9_guess 6 = .ok (.ifCond .eq 12, 3) := by decide +kernel
theorem dX9_guess_18 : decode cX9_guess 18 = .ok (.iconst (-1), 1) := by decide +kernel
theorem dX9_guess_19 : decode cX9_guess 19 = .ok (.ireturn, 1) := by decide +kernel
theorem dX9_image_0 : decode cX9_image 0 = .ok (.iload_n 1, 1) := by decide +kernel
theorem dX9_image_1 : decode cX9_image 1 = .ok (.ifCond .lt 12, 3) := by decide +kernel
theorem dX9_image_4 : decode cX9_image 4 = .ok (.iload_n 1, 1) := by decide +kernel
theorem dX9_image_5 : decode cX9_image 5 = .ok (.aload_n 0, 1) := by decide +kernel
theorem dX9_image_6 : decode cX9_image 6 = .ok (.getfield 82, 3) := by decide +kernel
theorem dX9_image_9 : decode cX9_image 9 = .ok (.arraylength, 1) := by decide +kernel
theorem dX9_image_10 : decode cX9_image 10 = .ok (.if_icmp .lt 5, 3) := by decide +kernel
theorem dX9_image_13 : decode cX9_image 13 = .ok (.iconst 0, 1) := by decide +kernel
theorem dX9_image_14 : decode cX9_image 14 = .ok (.ireturn, 1) := by decide +kernel
theorem dX9_image_15 : decode cX9_image 15 = .ok (.aload_n 0, 1) := by decide +kernel
theorem dX9_image_16 : decode cX9_image 16 = .ok (.getfield 82, 3) := by decide +kernel
theorem dX9_image_19 : decode cX9_image 19 = .ok (.iload_n 1, 1) := by decide +kernel
theorem dX9_image_20 : decode cX9_image 20 = .ok (.aaload, 1) := by decide +kernel
theorem dX9_image_21 : decode cX9_image 21 = .ok (.aload_n 0, 1) := by decide +kernel
theorem dX9_image_22 : decode cX9_image 22 = .ok (.getfield 65, 3) := by decide +kernel
theorem dX9_image_25 : decode cX9_image 25 = .ok (.aload_n 0, 1) := by decide +kernel
theorem dX9_image_26 : decode cX9_image 26 = .ok (.getfield 117, 3) := by decide +kernel
theorem dX9_image_29 : decode cX9_image 29 = .ok (.invokevirtual 351, 3) := by decide +kernel
theorem dX9_image_32 : decode cX9_image 32 = .ok (.iconst 1, 1) := by decide +kernel
theorem dX9_image_33 : decode cX9_image 33 = .ok (.ireturn, 1) := by decide +kernel
theorem dX9_isOf_0 : decode cX9_isOf 0 = .ok (.iload_n 2, 1) := by decide +kernel
theorem dX9_isOf_1 : decode cX9_isOf 1 = .ok (.ifCond .lt 23, 3) := by decide +kernel
theorem dX9_isOf_4 : decode cX9_isOf 4 = .ok (.iload_n 2, 1) := by decide +kernel
theorem dX9_isOf_5 : decode cX9_isOf 5 = .ok (.aload_n 0, 1) := by decide +kernel
theorem dX9_isOf_6 : decode cX9_isOf 6 = .ok (.getfield 65, 3) := by decide +kernel
theorem dX9_isOf_9 : decode cX9_isOf 9 = .ok (.getfield 168, 3) := by decide +kernel
theorem dX9_isOf_12 : decode cX9_isOf 12 = .ok (.getfield 297, 3) := by decide +kernel
theorem dX9_isOf_15 : decode cX9_isOf 15 = .ok (.iload_n 1, 1) := by decide +kernel
theorem dX9_isOf_16 : decode cX9_isOf 16 = .ok (.iaload, 1) := by decide +kernel
theorem dX9_isOf_17 : decode cX9_isOf 17 = .ok (.if_icmp .ge 7, 3) := by decide +kernel
theorem dX9_isOf_24 : decode cX9_isOf 24 = .ok (.iconst 0, 1) := by decide +kernel
theorem dX9_isOf_25 : decode cX9_isOf 25 = .ok (.ireturn, 1) := by decide +kernel
theorem dX9_keptIfSome_0 : decode cX9_keptIfSome 0 = .ok (.iload_n 1, 1) := by decide +kernel
theorem dX9_keptIfSome_1 : decode cX9_keptIfSome 1 = .ok (.ifCond .le 10, 3) := by decide +kernel
theorem dX9_keptIfSome_4 : decode cX9_keptIfSome 4 = .ok (.aload_n 0, 1) := by decide +kernel
theorem dX9_keptIfSome_5 : decode cX9_keptIfSome 5 = .ok (.getfield 75, 3) := by decide +kernel
theorem dX9_keptIfSome_8 : decode cX9_keptIfSome 8 = .ok (.invokevirtual 230, 3) := by decide +kernel
theorem dX9_keptIfSome_11 : decode cX9_keptIfSome 11 = .ok (.iload_n 1, 1) := by decide +kernel
theorem dX9_keptIfSome_12 : decode cX9_keptIfSome 12 = .ok (.ireturn, 1) := by decide +kernel
theorem dX9_let_0 : decode cX9_let 0 = .ok (.aload_n 0, 1) := by decide +kernel
theorem dX9_let_1 : decode cX9_let 1 = .ok (.iconst 2, 1) := by decide +kernel
theorem dX9_let_2 : decode cX9_let 2 = .ok (.iload_n 1, 1) := by decide +kernel
theorem dX9_let_3 : decode cX9_let 3 = .ok (.invokevirtual 124, 3) := by decide +kernel
theorem dX9_let_6 : decode cX9_let 6 = .ok (.ifCond .ne 5, 3) := by decide +kernel
theorem dX9_let_9 : decode cX9_let 9 = .ok (.iconst (-1), 1) := by decide +kernel
theorem dX9_let_10 : decode cX9_let 10 = .ok (.ireturn, 1) := by decide +kernel
theorem dX9_much_0 : decode cX9_much 0 = .ok (.aload_n 0, 1) := by decide +kernel
theorem dX9_much_1 : decode cX9_much 1 = .ok (.iconst 2, 1) := by decide +kernel
theorem dX9_much_2 : decode cX9_much 2 = .ok (.iload_n 1, 1) := by decide +kernel
theorem dX9_much_3 : decode cX9_much 3 = .ok (.invokevirtual 124, 3) := by decide +kernel
theorem dX9_much_6 : decode cX9_much 6 = .ok (.ifCond .eq 24, 3) := by decide +kernel
theorem dX9_much_30 : decode cX9_much 30 = .ok (.iconst (-1), 1) := by decide +kernel
theorem dX9_much_31 : decode cX9_much 31 = .ok (.ireturn, 1) := by decide +kernel
theorem dX9_need_0 : decode cX9_need 0 = .ok (.aload_n 0, 1) := by decide +kernel
theorem dX9_need_1 : decode cX9_need 1 = .ok (.iconst 0, 1) := by decide +kernel
theorem dX9_need_2 : decode cX9_need 2 = .ok (.iload_n 1, 1) := by decide +kernel
theorem dX9_need_3 : decode cX9_need 3 = .ok (.invokevirtual 124, 3) := by decide +kernel
theorem dX9_need_6 : decode cX9_need 6 = .ok (.ifCond .eq 18, 3) := by decide +kernel
theorem dX9_need_24 : decode cX9_need 24 = .ok (.iconst (-1), 1) := by decide +kernel
theorem dX9_need_25 : decode cX9_need 25 = .ok (.ireturn, 1) := by decide +kernel
theorem dX9_noteFault_0 : decode cX9_noteFault 0 = .ok (.aload_n 0, 1) := by decide +kernel
theorem dX9_noteFault_1 : decode cX9_noteFault 1 = .ok (.aload_n 0, 1) := by decide +kernel
theorem dX9_noteFault_2 : decode cX9_noteFault 2 = .ok (.getfield 10, 3) := by decide +kernel
theorem dX9_noteFault_5 : decode cX9_noteFault 5 = .ok (.getfield 367, 3) := by decide +kernel
theorem dX9_noteFault_8 : decode cX9_noteFault 8 = .ok (.putfield 44, 3) := by decide +kernel
theorem dX9_noteFault_11 : decode cX9_noteFault 11 = .ok (.aload_n 0, 1) := by decide +kernel
theorem dX9_noteFault_12 : decode cX9_noteFault 12 = .ok (.getfield 10, 3) := by decide +kernel
theorem dX9_noteFault_15 : decode cX9_noteFault 15 = .ok (.iconst 0, 1) := by decide +kernel
theorem dX9_noteFault_16 : decode cX9_noteFault 16 = .ok (.putfield 100, 3) := by decide +kernel
theorem dX9_noteFault_19 : decode cX9_noteFault 19 = .ok (.return_, 1) := by decide +kernel
theorem dX9_now_0 : decode cX9_now 0 = .ok (.iload_n 1, 1) := by decide +kernel
theorem dX9_now_1 : decode cX9_now 1 = .ok (.tableswitch 113 0 6 #[43, 51, 59, 67, 75, 83, 98], 43) := by decide +kernel
theorem dX9_now_44 : decode cX9_now 44 = .ok (.aload_n 0, 1) := by decide +kernel
theorem dX9_now_45 : decode cX9_now 45 = .ok (.getfield 65, 3) := by decide +kernel
theorem dX9_now_48 : decode cX9_now 48 = .ok (.getfield 192, 3) := by decide +kernel
theorem dX9_now_51 : decode cX9_now 51 = .ok (.ireturn, 1) := by decide +kernel
theorem dX9_now_52 : decode cX9_now 52 = .ok (.aload_n 0, 1) := by decide +kernel
theorem dX9_now_53 : decode cX9_now 53 = .ok (.getfield 65, 3) := by decide +kernel
theorem dX9_now_56 : decode cX9_now 56 = .ok (.invokevirtual 195, 3) := by decide +kernel
theorem dX9_now_59 : decode cX9_now 59 = .ok (.ireturn, 1) := by decide +kernel
theorem dX9_now_60 : decode cX9_now 60 = .ok (.aload_n 0, 1) := by decide +kernel
theorem dX9_now_61 : decode cX9_now 61 = .ok (.getfield 65, 3) := by decide +kernel
theorem dX9_now_64 : decode cX9_now 64 = .ok (.invokevirtual 199, 3) := by decide +kernel
theorem dX9_now_67 : decode cX9_now 67 = .ok (.ireturn, 1) := by decide +kernel
theorem dX9_now_68 : decode cX9_now 68 = .ok (.aload_n 0, 1) := by decide +kernel
theorem dX9_now_69 : decode cX9_now 69 = .ok (.getfield 65, 3) := by decide +kernel
theorem dX9_now_72 : decode cX9_now 72 = .ok (.invokevirtual 202, 3) := by decide +kernel
theorem dX9_now_75 : decode cX9_now 75 = .ok (.ireturn, 1) := by decide +kernel
theorem dX9_now_76 : decode cX9_now 76 = .ok (.aload_n 0, 1) := by decide +kernel
theorem dX9_now_77 : decode cX9_now 77 = .ok (.getfield 65, 3) := by decide +kernel
theorem dX9_now_80 : decode cX9_now 80 = .ok (.invokevirtual 205, 3) := by decide +kernel
theorem dX9_now_83 : decode cX9_now 83 = .ok (.ireturn, 1) := by decide +kernel
theorem dX9_now_84 : decode cX9_now 84 = .ok (.aload_n 0, 1) := by decide +kernel
theorem dX9_now_85 : decode cX9_now 85 = .ok (.getfield 65, 3) := by decide +kernel
theorem dX9_now_88 : decode cX9_now 88 = .ok (.aload_n 0, 1) := by decide +kernel
theorem dX9_now_89 : decode cX9_now 89 = .ok (.getfield 65, 3) := by decide +kernel
theorem dX9_now_92 : decode cX9_now 92 = .ok (.getfield 149, 3) := by decide +kernel
theorem dX9_now_95 : decode cX9_now 95 = .ok (.invokevirtual 208, 3) := by decide +kernel
theorem dX9_now_98 : decode cX9_now 98 = .ok (.ireturn, 1) := by decide +kernel
theorem dX9_now_99 : decode cX9_now 99 = .ok (.aload_n 0, 1) := by decide +kernel
theorem dX9_now_100 : decode cX9_now 100 = .ok (.getfield 65, 3) := by decide +kernel
theorem dX9_now_103 : decode cX9_now 103 = .ok (.aload_n 0, 1) := by decide +kernel
theorem dX9_now_104 : decode cX9_now 104 = .ok (.getfield 65, 3) := by decide +kernel
theorem dX9_now_107 : decode cX9_now 107 = .ok (.getfield 155, 3) := by decide +kernel
theorem dX9_now_110 : decode cX9_now 110 = .ok (.invokevirtual 208, 3) := by decide +kernel
theorem dX9_now_113 : decode cX9_now 113 = .ok (.ireturn, 1) := by decide +kernel
theorem dX9_now_114 : decode cX9_now 114 = .ok (.iconst (-1), 1) := by decide +kernel
theorem dX9_now_115 : decode cX9_now 115 = .ok (.ireturn, 1) := by decide +kernel
theorem dX9_odds_0 : decode cX9_odds 0 = .ok (.aload_n 0, 1) := by decide +kernel
theorem dX9_odds_1 : decode cX9_odds 1 = .ok (.iconst 2, 1) := by decide +kernel
theorem dX9_odds_2 : decode cX9_odds 2 = .ok (.iload_n 1, 1) := by decide +kernel
theorem dX9_odds_3 : decode cX9_odds 3 = .ok (.invokevirtual 124, 3) := by decide +kernel
theorem dX9_odds_6 : decode cX9_odds 6 = .ok (.ifCond .eq 23, 3) := by decide +kernel
theorem dX9_odds_29 : decode cX9_odds 29 = .ok (.iconst (-1), 1) := by decide +kernel
theorem dX9_odds_30 : decode cX9_odds 30 = .ok (.ireturn, 1) := by decide +kernel
theorem dX9_open_0 : decode cX9_open 0 = .ok (.aload_n 0, 1) := by decide +kernel
theorem dX9_open_1 : decode cX9_open 1 = .ok (.iconst 2, 1) := by decide +kernel
theorem dX9_open_2 : decode cX9_open 2 = .ok (.iload_n 1, 1) := by decide +kernel
theorem dX9_open_3 : decode cX9_open 3 = .ok (.invokevirtual 124, 3) := by decide +kernel
theorem dX9_open_6 : decode cX9_open 6 = .ok (.ifCond .ne 5, 3) := by decide +kernel
theorem dX9_open_9 : decode cX9_open 9 = .ok (.iconst (-1), 1) := by decide +kernel
theorem dX9_open_10 : decode cX9_open 10 = .ok (.ireturn, 1) := by decide +kernel
theorem dX9_post_0 : decode cX9_post 0 = .ok (.new 57, 3) := by decide +kernel
theorem dX9_post_3 : decode cX9_post 3 = .ok (.dup, 1) := by decide +kernel
theorem dX9_post_4 : decode cX9_post 4 = .ok (.invokespecial 59, 3) := by decide +kernel
theorem dX9_post_7 : decode cX9_post 7 = .ok (.astore_n 1, 1) := by decide +kernel
theorem dX9_post_8 : decode cX9_post 8 = .ok (.aload_n 1, 1) := by decide +kernel
theorem dX9_post_9 : decode cX9_post 9 = .ok (.aload_n 0, 1) := by decide +kernel
theorem dX9_post_10 : decode cX9_post 10 = .ok (.getfield 10, 3) := by decide +kernel
theorem dX9_post_13 : decode cX9_post 13 = .ok (.aload_n 0, 1) := by decide +kernel
theorem dX9_post_14 : decode cX9_post 14 = .ok (.getfield 69, 3) := by decide +kernel
theorem dX9_post_17 : decode cX9_post 17 = .ok (.invokevirtual 103, 3) := by decide +kernel
theorem dX9_post_20 : decode cX9_post 20 = .ok (.istore_n 2, 1) := by decide +kernel
theorem dX9_post_21 : decode cX9_post 21 = .ok (.aload_n 0, 1) := by decide +kernel
theorem dX9_post_22 : decode cX9_post 22 = .ok (.invokevirtual 107, 3) := by decide +kernel
theorem dX9_post_25 : decode cX9_post 25 = .ok (.aload_n 0, 1) := by decide +kernel
theorem dX9_post_26 : decode cX9_post 26 = .ok (.getfield 44, 3) := by decide +kernel
theorem dX9_post_29 : decode cX9_post 29 = .ok (.ifCond .eq 13, 3) := by decide +kernel
theorem dX9_post_42 : decode cX9_post 42 = .ok (.aload_n 0, 1) := by decide +kernel
theorem dX9_post_43 : decode cX9_post 43 = .ok (.getfield 65, 3) := by decide +kernel
theorem dX9_post_46 : decode cX9_post 46 = .ok (.aload_n 0, 1) := by decide +kernel
theorem dX9_post_47 : decode cX9_post 47 = .ok (.getfield 69, 3) := by decide +kernel
theorem dX9_post_50 : decode cX9_post 50 = .ok (.invokevirtual 113, 3) := by decide +kernel
theorem dX9_post_53 : decode cX9_post 53 = .ok (.aload_n 0, 1) := by decide +kernel
theorem dX9_post_54 : decode cX9_post 54 = .ok (.aconst_null, 1) := by decide +kernel
theorem dX9_post_55 : decode cX9_post 55 = .ok (.putfield 117, 3) := by decide +kernel
theorem dX9_post_58 : decode cX9_post 58 = .ok (.aload_n 0, 1) := by decide +kernel
theorem dX9_post_59 : decode cX9_post 59 = .ok (.getfield 75, 3) := by decide +kernel
theorem dX9_post_62 : decode cX9_post 62 = .ok (.invokevirtual 121, 3) := by decide +kernel
theorem dX9_post_65 : decode cX9_post 65 = .ok (.iload_n 2, 1) := by decide +kernel
theorem dX9_post_66 : decode cX9_post 66 = .ok (.ireturn, 1) := by decide +kernel
theorem dX9_quarrels_0 : decode cX9_quarrels 0 = .ok (.aload_n 0, 1) := by decide +kernel
theorem dX9_quarrels_1 : decode cX9_quarrels 1 = .ok (.iconst 0, 1) := by decide +kernel
theorem dX9_quarrels_2 : decode cX9_quarrels 2 = .ok (.iload_n 1, 1) := by decide +kernel
theorem dX9_quarrels_3 : decode cX9_quarrels 3 = .ok (.invokevirtual 124, 3) := by decide +kernel
theorem dX9_quarrels_6 : decode cX9_quarrels 6 = .ok (.ifCond .eq 18, 3) := by decide +kernel
theorem dX9_quarrels_24 : decode cX9_quarrels 24 = .ok (.iconst (-1), 1) := by decide +kernel
theorem dX9_quarrels_25 : decode cX9_quarrels 25 = .ok (.ireturn, 1) := by decide +kernel
theorem dX9_rest_0 : decode cX9_rest 0 = .ok (.aload_n 0, 1) := by decide +kernel
theorem dX9_rest_1 : decode cX9_rest 1 = .ok (.getfield 69, 3) := by decide +kernel
theorem dX9_rest_4 : decode cX9_rest 4 = .ok (.aload_n 0, 1) := by decide +kernel
theorem dX9_rest_5 : decode cX9_rest 5 = .ok (.getfield 65, 3) := by decide +kernel
theorem dX9_rest_8 : decode cX9_rest 8 = .ok (.invokevirtual 113, 3) := by decide +kernel
theorem dX9_rest_11 : decode cX9_rest 11 = .ok (.aload_n 0, 1) := by decide +kernel
theorem dX9_rest_12 : decode cX9_rest 12 = .ok (.getfield 69, 3) := by decide +kernel
theorem dX9_rest_15 : decode cX9_rest 15 = .ok (.invokevirtual 294, 3) := by decide +kernel
theorem dX9_rest_18 : decode cX9_rest 18 = .ok (.istore_n 1, 1) := by decide +kernel
theorem dX9_rest_19 : decode cX9_rest 19 = .ok (.aload_n 0, 1) := by decide +kernel
theorem dX9_rest_20 : decode cX9_rest 20 = .ok (.getfield 34, 3) := by decide +kernel
theorem dX9_rest_23 : decode cX9_rest 23 = .ok (.iconst (-1), 1) := by decide +kernel
theorem dX9_rest_24 : decode cX9_rest 24 = .ok (.invokestatic 86, 3) := by decide +kernel
theorem dX9_rest_27 : decode cX9_rest 27 = .ok (.aload_n 0, 1) := by decide +kernel
theorem dX9_rest_28 : decode cX9_rest 28 = .ok (.getfield 69, 3) := by decide +kernel
theorem dX9_rest_31 : decode cX9_rest 31 = .ok (.getfield 175, 3) := by decide +kernel
theorem dX9_rest_34 : decode cX9_rest 34 = .ok (.iconst 0, 1) := by decide +kernel
theorem dX9_rest_35 : decode cX9_rest 35 = .ok (.aload_n 0, 1) := by decide +kernel
theorem dX9_rest_36 : decode cX9_rest 36 = .ok (.getfield 34, 3) := by decide +kernel
theorem dX9_rest_39 : decode cX9_rest 39 = .ok (.iconst 0, 1) := by decide +kernel
theorem dX9_rest_40 : decode cX9_rest 40 = .ok (.aload_n 0, 1) := by decide +kernel
theorem dX9_rest_41 : decode cX9_rest 41 = .ok (.getfield 65, 3) := by decide +kernel
theorem dX9_rest_44 : decode cX9_rest 44 = .ok (.getfield 168, 3) := by decide +kernel
theorem dX9_rest_47 : decode cX9_rest 47 = .ok (.getfield 297, 3) := by decide +kernel
theorem dX9_rest_50 : decode cX9_rest 50 = .ok (.iconst 3, 1) := by decide +kernel
theorem dX9_rest_51 : decode cX9_rest 51 = .ok (.iaload, 1) := by decide +kernel
theorem dX9_rest_52 : decode cX9_rest 52 = .ok (.invokestatic 300, 3) := by decide +kernel
theorem dX9_rest_55 : decode cX9_rest 55 = .ok (.iload_n 1, 1) := by decide +kernel
theorem dX9_rest_56 : decode cX9_rest 56 = .ok (.ireturn, 1) := by decide +kernel
theorem dX9_rested_0 : decode cX9_rested 0 = .ok (.iload_n 1, 1) := by decide +kernel
theorem dX9_rested_1 : decode cX9_rested 1 = .ok (.ifCond .lt 18, 3) := by decide +kernel
theorem dX9_rested_4 : decode cX9_rested 4 = .ok (.iload_n 1, 1) := by decide +kernel
theorem dX9_rested_5 : decode cX9_rested 5 = .ok (.bipush 8, 2) := by decide +kernel
theorem dX9_rested_7 : decode cX9_rested 7 = .ok (.if_icmp .ge 12, 3) := by decide +kernel
theorem dX9_rested_10 : decode cX9_rested 10 = .ok (.aload_n 0, 1) := by decide +kernel
theorem dX9_rested_11 : decode cX9_rested 11 = .ok (.getfield 34, 3) := by decide +kernel
theorem dX9_rested_14 : decode cX9_rested 14 = .ok (.iload_n 1, 1) := by decide +kernel
theorem dX9_rested_15 : decode cX9_rested 15 = .ok (.iaload, 1) := by decide +kernel
theorem dX9_rested_16 : decode cX9_rested 16 = .ok (.goto 4, 3) := by decide +kernel
theorem dX9_rested_19 : decode cX9_rested 19 = .ok (.iconst (-1), 1) := by decide +kernel
theorem dX9_rested_20 : decode cX9_rested 20 = .ok (.ireturn, 1) := by decide +kernel
theorem dX9_restore_0 : decode cX9_restore 0 = .ok (.iload_n 1, 1) := by decide +kernel
theorem dX9_restore_1 : decode cX9_restore 1 = .ok (.ifCond .lt 24, 3) := by decide +kernel
theorem dX9_restore_4 : decode cX9_restore 4 = .ok (.iload_n 1, 1) := by decide +kernel
theorem dX9_restore_5 : decode cX9_restore 5 = .ok (.aload_n 0, 1) := by decide +kernel
theorem dX9_restore_6 : decode cX9_restore 6 = .ok (.getfield 82, 3) := by decide +kernel
theorem dX9_restore_9 : decode cX9_restore 9 = .ok (.arraylength, 1) := by decide +kernel
theorem dX9_restore_10 : decode cX9_restore 10 = .ok (.if_icmp .ge 15, 3) := by decide +kernel
theorem dX9_restore_13 : decode cX9_restore 13 = .ok (.aload_n 0, 1) := by decide +kernel
theorem dX9_restore_14 : decode cX9_restore 14 = .ok (.getfield 82, 3) := by decide +kernel
theorem dX9_restore_17 : decode cX9_restore 17 = .ok (.iload_n 1, 1) := by decide +kernel
theorem dX9_restore_18 : decode cX9_restore 18 = .ok (.aaload, 1) := by decide +kernel
theorem dX9_restore_19 : decode cX9_restore 19 = .ok (.getfield 355, 3) := by decide +kernel
theorem dX9_restore_22 : decode cX9_restore 22 = .ok (.ifCond .ne 5, 3) := by decide +kernel
theorem dX9_restore_25 : decode cX9_restore 25 = .ok (.iconst 0, 1) := by decide +kernel
theorem dX9_restore_26 : decode cX9_restore 26 = .ok (.ireturn, 1) := by decide +kernel
theorem dX9_roomOf_0 : decode cX9_roomOf 0 = .ok (.iload_n 1, 1) := by decide +kernel
theorem dX9_roomOf_1 : decode cX9_roomOf 1 = .ok (.ifCond .lt 21, 3) := by decide +kernel
theorem dX9_roomOf_4 : decode cX9_roomOf 4 = .ok (.iload_n 1, 1) := by decide +kernel
theorem dX9_roomOf_5 : decode cX9_roomOf 5 = .ok (.bipush 6, 2) := by decide +kernel
theorem dX9_roomOf_7 : decode cX9_roomOf 7 = .ok (.if_icmp .ge 15, 3) := by decide +kernel
theorem dX9_roomOf_10 : decode cX9_roomOf 10 = .ok (.aload_n 0, 1) := by decide +kernel
theorem dX9_roomOf_11 : decode cX9_roomOf 11 = .ok (.getfield 30, 3) := by decide +kernel
theorem dX9_roomOf_14 : decode cX9_roomOf 14 = .ok (.getfield 293, 3) := by decide +kernel
theorem dX9_roomOf_17 : decode cX9_roomOf 17 = .ok (.iload_n 1, 1) := by decide +kernel
theorem dX9_roomOf_18 : decode cX9_roomOf 18 = .ok (.iaload, 1) := by decide +kernel
theorem dX9_roomOf_19 : decode cX9_roomOf 19 = .ok (.goto 4, 3) := by decide +kernel
theorem dX9_roomOf_22 : decode cX9_roomOf 22 = .ok (.iconst (-1), 1) := by decide +kernel
theorem dX9_roomOf_23 : decode cX9_roomOf 23 = .ok (.ireturn, 1) := by decide +kernel
theorem dX9_rooms_0 : decode cX9_rooms 0 = .ok (.aload_n 0, 1) := by decide +kernel
theorem dX9_rooms_1 : decode cX9_rooms 1 = .ok (.getfield 30, 3) := by decide +kernel
theorem dX9_rooms_4 : decode cX9_rooms 4 = .ok (.aload_n 0, 1) := by decide +kernel
theorem dX9_rooms_5 : decode cX9_rooms 5 = .ok (.getfield 65, 3) := by decide +kernel
theorem dX9_rooms_8 : decode cX9_rooms 8 = .ok (.invokevirtual 290, 3) := by decide +kernel
theorem dX9_rooms_11 : decode cX9_rooms 11 = .ok (.ireturn, 1) := by decide +kernel
theorem dX9_said_0 : decode cX9_said 0 = .ok (.aload_n 0, 1) := by decide +kernel
theorem dX9_said_1 : decode cX9_said 1 = .ok (.getfield 117, 3) := by decide +kernel
theorem dX9_said_4 : decode cX9_said 4 = .ok (.astore_n 2, 1) := by decide +kernel
theorem dX9_said_5 : decode cX9_said 5 = .ok (.aload_n 2, 1) := by decide +kernel
theorem dX9_said_6 : decode cX9_said 6 = .ok (.ifnull 8, 3) := by decide +kernel
theorem dX9_said_14 : decode cX9_said 14 = .ok (.iconst (-1), 1) := by decide +kernel
theorem dX9_said_15 : decode cX9_said 15 = .ok (.ireturn, 1) := by decide +kernel
theorem dX9_sat_0 : decode cX9_sat 0 = .ok (.aload_n 0, 1) := by decide +kernel
theorem dX9_sat_1 : decode cX9_sat 1 = .ok (.getfield 10, 3) := by decide +kernel
theorem dX9_sat_4 : decode cX9_sat 4 = .ok (.getfield 100, 3) := by decide +kernel
theorem dX9_sat_7 : decode cX9_sat 7 = .ok (.iconst 4, 1) := by decide +kernel
theorem dX9_sat_8 : decode cX9_sat 8 = .ok (.if_icmp .ne 7, 3) := by decide +kernel
theorem dX9_sat_15 : decode cX9_sat 15 = .ok (.iconst 0, 1) := by decide +kernel
theorem dX9_sat_16 : decode cX9_sat 16 = .ok (.istore_n 1, 1) := by decide +kernel
theorem dX9_sat_17 : decode cX9_sat 17 = .ok (.aload_n 0, 1) := by decide +kernel
theorem dX9_sat_18 : decode cX9_sat 18 = .ok (.getfield 10, 3) := by decide +kernel
theorem dX9_sat_21 : decode cX9_sat 21 = .ok (.iconst 0, 1) := by decide +kernel
theorem dX9_sat_22 : decode cX9_sat 22 = .ok (.invokevirtual 279, 3) := by decide +kernel
theorem dX9_sat_25 : decode cX9_sat 25 = .ok (.istore_n 2, 1) := by decide +kernel
theorem dX9_sat_26 : decode cX9_sat 26 = .ok (.aload_n 0, 1) := by decide +kernel
theorem dX9_sat_27 : decode cX9_sat 27 = .ok (.getfield 10, 3) := by decide +kernel
theorem dX9_sat_30 : decode cX9_sat 30 = .ok (.iconst 1, 1) := by decide +kernel
theorem dX9_sat_31 : decode cX9_sat 31 = .ok (.invokevirtual 279, 3) := by decide +kernel
theorem dX9_sat_34 : decode cX9_sat 34 = .ok (.istore_n 3, 1) := by decide +kernel
theorem dX9_sat_35 : decode cX9_sat 35 = .ok (.aload_n 0, 1) := by decide +kernel
theorem dX9_sat_36 : decode cX9_sat 36 = .ok (.getfield 10, 3) := by decide +kernel
theorem dX9_sat_39 : decode cX9_sat 39 = .ok (.iconst 2, 1) := by decide +kernel
theorem dX9_sat_40 : decode cX9_sat 40 = .ok (.invokevirtual 279, 3) := by decide +kernel
theorem dX9_sat_43 : decode cX9_sat 43 = .ok (.istore 4, 2) := by decide +kernel
theorem dX9_sat_45 : decode cX9_sat 45 = .ok (.aload_n 0, 1) := by decide +kernel
theorem dX9_sat_46 : decode cX9_sat 46 = .ok (.getfield 10, 3) := by decide +kernel
theorem dX9_sat_49 : decode cX9_sat 49 = .ok (.iconst 3, 1) := by decide +kernel
theorem dX9_sat_50 : decode cX9_sat 50 = .ok (.invokevirtual 279, 3) := by decide +kernel
theorem dX9_sat_53 : decode cX9_sat 53 = .ok (.istore 5, 2) := by decide +kernel
theorem dX9_sat_55 : decode cX9_sat 55 = .ok (.aload_n 0, 1) := by decide +kernel
theorem dX9_sat_56 : decode cX9_sat 56 = .ok (.getfield 10, 3) := by decide +kernel
theorem dX9_sat_59 : decode cX9_sat 59 = .ok (.iconst 0, 1) := by decide +kernel
theorem dX9_sat_60 : decode cX9_sat 60 = .ok (.putfield 100, 3) := by decide +kernel
theorem dX9_sat_63 : decode cX9_sat 63 = .ok (.iload_n 1, 1) := by decide +kernel
theorem dX9_sat_64 : decode cX9_sat 64 = .ok (.ifCond .eq 23, 3) := by decide +kernel
theorem dX9_sat_87 : decode cX9_sat 87 = .ok (.iconst (-1), 1) := by decide +kernel
theorem dX9_sat_88 : decode cX9_sat 88 = .ok (.ireturn, 1) := by decide +kernel
theorem dX9_sentence_0 : decode cX9_sentence 0 = .ok (.new 340, 3) := by decide +kernel
theorem dX9_sentence_3 : decode cX9_sentence 3 = .ok (.dup, 1) := by decide +kernel
theorem dX9_sentence_4 : decode cX9_sentence 4 = .ok (.invokespecial 342, 3) := by decide +kernel
theorem dX9_sentence_7 : decode cX9_sentence 7 = .ok (.astore_n 1, 1) := by decide +kernel
theorem dX9_sentence_8 : decode cX9_sentence 8 = .ok (.aload_n 1, 1) := by decide +kernel
theorem dX9_sentence_9 : decode cX9_sentence 9 = .ok (.aload_n 0, 1) := by decide +kernel
theorem dX9_sentence_10 : decode cX9_sentence 10 = .ok (.getfield 10, 3) := by decide +kernel
theorem dX9_sentence_13 : decode cX9_sentence 13 = .ok (.aload_n 0, 1) := by decide +kernel
theorem dX9_sentence_14 : decode cX9_sentence 14 = .ok (.getfield 65, 3) := by decide +kernel
theorem dX9_sentence_17 : decode cX9_sentence 17 = .ok (.getfield 168, 3) := by decide +kernel
theorem dX9_sentence_20 : decode cX9_sentence 20 = .ok (.invokevirtual 343, 3) := by decide +kernel
theorem dX9_sentence_23 : decode cX9_sentence 23 = .ok (.aload_n 0, 1) := by decide +kernel
theorem dX9_sentence_24 : decode cX9_sentence 24 = .ok (.invokevirtual 107, 3) := by decide +kernel
theorem dX9_sentence_27 : decode cX9_sentence 27 = .ok (.aload_n 0, 1) := by decide +kernel
theorem dX9_sentence_28 : decode cX9_sentence 28 = .ok (.getfield 44, 3) := by decide +kernel
theorem dX9_sentence_31 : decode cX9_sentence 31 = .ok (.ifCond .eq 13, 3) := by decide +kernel
theorem dX9_sentence_34 : decode cX9_sentence 34 = .ok (.iconst (-1), 1) := by decide +kernel
theorem dX9_sentence_35 : decode cX9_sentence 35 = .ok (.aload_n 0, 1) := by decide +kernel
theorem dX9_sentence_36 : decode cX9_sentence 36 = .ok (.getfield 10, 3) := by decide +kernel
theorem dX9_sentence_39 : decode cX9_sentence 39 = .ok (.getfield 110, 3) := by decide +kernel
theorem dX9_sentence_42 : decode cX9_sentence 42 = .ok (.isub, 1) := by decide +kernel
theorem dX9_sentence_43 : decode cX9_sentence 43 = .ok (.ireturn, 1) := by decide +kernel
theorem dX9_sit_0 : decode cX9_sit 0 = .ok (.aload_n 0, 1) := by decide +kernel
theorem dX9_sit_1 : decode cX9_sit 1 = .ok (.iconst 3, 1) := by decide +kernel
theorem dX9_sit_2 : decode cX9_sit 2 = .ok (.iload_n 1, 1) := by decide +kernel
theorem dX9_sit_3 : decode cX9_sit 3 = .ok (.invokevirtual 124, 3) := by decide +kernel
theorem dX9_sit_6 : decode cX9_sit 6 = .ok (.ifCond .eq 12, 3) := by decide +kernel
theorem dX9_sit_18 : decode cX9_sit 18 = .ok (.iconst (-1), 1) := by decide +kernel
theorem dX9_sit_19 : decode cX9_sit 19 = .ok (.ireturn, 1) := by decide +kernel
theorem dX9_sitters_0 : decode cX9_sitters 0 = .ok (.aload_n 0, 1) := by decide +kernel
theorem dX9_sitters_1 : decode cX9_sitters 1 = .ok (.iconst 2, 1) := by decide +kernel
theorem dX9_sitters_2 : decode cX9_sitters 2 = .ok (.iload_n 1, 1) := by decide +kernel
theorem dX9_sitters_3 : decode cX9_sitters 3 = .ok (.invokevirtual 124, 3) := by decide +kernel
theorem dX9_sitters_6 : decode cX9_sitters 6 = .ok (.ifCond .eq 23, 3) := by decide +kernel
theorem dX9_sitters_29 : decode cX9_sitters 29 = .ok (.iconst (-1), 1) := by decide +kernel
theorem dX9_sitters_30 : decode cX9_sitters 30 = .ok (.ireturn, 1) := by decide +kernel
theorem dX9_sitting_0 : decode cX9_sitting 0 = .ok (.aload_n 0, 1) := by decide +kernel
theorem dX9_sitting_1 : decode cX9_sitting 1 = .ok (.getfield 48, 3) := by decide +kernel
theorem dX9_sitting_4 : decode cX9_sitting 4 = .ok (.ireturn, 1) := by decide +kernel
theorem dX9_stand_0 : decode cX9_stand 0 = .ok (.aload_n 0, 1) := by decide +kernel
theorem dX9_stand_1 : decode cX9_stand 1 = .ok (.iconst 3, 1) := by decide +kernel
theorem dX9_stand_2 : decode cX9_stand 2 = .ok (.iload_n 1, 1) := by decide +kernel
theorem dX9_stand_3 : decode cX9_stand 3 = .ok (.invokevirtual 124, 3) := by decide +kernel
theorem dX9_stand_6 : decode cX9_stand 6 = .ok (.ifCond .ne 5, 3) := by decide +kernel
theorem dX9_stand_9 : decode cX9_stand 9 = .ok (.iconst (-1), 1) := by decide +kernel
theorem dX9_stand_10 : decode cX9_stand 10 = .ok (.ireturn, 1) := by decide +kernel
theorem dX9_surely_0 : decode cX9_surely 0 = .ok (.aload_n 0, 1) := by decide +kernel
theorem dX9_surely_1 : decode cX9_surely 1 = .ok (.getfield 51, 3) := by decide +kernel
theorem dX9_surely_4 : decode cX9_surely 4 = .ok (.ireturn, 1) := by decide +kernel
theorem dX9_tag_0 : decode cX9_tag 0 = .ok (.aload_n 0, 1) := by decide +kernel
theorem dX9_tag_1 : decode cX9_tag 1 = .ok (.iconst 2, 1) := by decide +kernel
theorem dX9_tag_2 : decode cX9_tag 2 = .ok (.iload_n 1, 1) := by decide +kernel
theorem dX9_tag_3 : decode cX9_tag 3 = .ok (.invokevirtual 124, 3) := by decide +kernel
theorem dX9_tag_6 : decode cX9_tag 6 = .ok (.ifCond .ne 5, 3) := by decide +kernel
theorem dX9_tag_9 : decode cX9_tag 9 = .ok (.iconst (-1), 1) := by decide +kernel
theorem dX9_tag_10 : decode cX9_tag 10 = .ok (.ireturn, 1) := by decide +kernel
theorem dX9_told_0 : decode cX9_told 0 = .ok (.iload_n 1, 1) := by decide +kernel
theorem dX9_told_1 : decode cX9_told 1 = .ok (.ifCond .lt 21, 3) := by decide +kernel
theorem dX9_told_4 : decode cX9_told 4 = .ok (.iload_n 1, 1) := by decide +kernel
theorem dX9_told_5 : decode cX9_told 5 = .ok (.aload_n 0, 1) := by decide +kernel
theorem dX9_told_6 : decode cX9_told 6 = .ok (.getfield 23, 3) := by decide +kernel
theorem dX9_told_9 : decode cX9_told 9 = .ok (.arraylength, 1) := by decide +kernel
theorem dX9_told_10 : decode cX9_told 10 = .ok (.if_icmp .ge 12, 3) := by decide +kernel
theorem dX9_told_13 : decode cX9_told 13 = .ok (.aload_n 0, 1) := by decide +kernel
theorem dX9_told_14 : decode cX9_told 14 = .ok (.getfield 23, 3) := by decide +kernel
theorem dX9_told_17 : decode cX9_told 17 = .ok (.iload_n 1, 1) := by decide +kernel
theorem dX9_told_18 : decode cX9_told 18 = .ok (.iaload, 1) := by decide +kernel
theorem dX9_told_19 : decode cX9_told 19 = .ok (.goto 4, 3) := by decide +kernel
theorem dX9_told_22 : decode cX9_told 22 = .ok (.iconst (-1), 1) := by decide +kernel
theorem dX9_told_23 : decode cX9_told 23 = .ok (.ireturn, 1) := by decide +kernel
theorem dX9_undo_0 : decode cX9_undo 0 = .ok (.aload_n 0, 1) := by decide +kernel
theorem dX9_undo_1 : decode cX9_undo 1 = .ok (.getfield 75, 3) := by decide +kernel
theorem dX9_undo_4 : decode cX9_undo 4 = .ok (.aload_n 0, 1) := by decide +kernel
theorem dX9_undo_5 : decode cX9_undo 5 = .ok (.getfield 65, 3) := by decide +kernel
theorem dX9_undo_8 : decode cX9_undo 8 = .ok (.invokevirtual 248, 3) := by decide +kernel
theorem dX9_undo_11 : decode cX9_undo 11 = .ok (.ireturn, 1) := by decide +kernel
theorem dX9_when_0 : decode cX9_when 0 = .ok (.aload_n 0, 1) := by decide +kernel
theorem dX9_when_1 : decode cX9_when 1 = .ok (.iconst 2, 1) := by decide +kernel
theorem dX9_when_2 : decode cX9_when 2 = .ok (.iload_n 1, 1) := by decide +kernel
theorem dX9_when_3 : decode cX9_when 3 = .ok (.invokevirtual 124, 3) := by decide +kernel
theorem dX9_when_6 : decode cX9_when 6 = .ok (.ifCond .eq 12, 3) := by decide +kernel
theorem dX9_when_18 : decode cX9_when 18 = .ok (.iconst (-1), 1) := by decide +kernel
theorem dX9_when_19 : decode cX9_when 19 = .ok (.ireturn, 1) := by decide +kernel
theorem dX9_wish_0 : decode cX9_wish 0 = .ok (.aload_n 0, 1) := by decide +kernel
theorem dX9_wish_1 : decode cX9_wish 1 = .ok (.iconst 3, 1) := by decide +kernel
theorem dX9_wish_2 : decode cX9_wish 2 = .ok (.iload_n 1, 1) := by decide +kernel
theorem dX9_wish_3 : decode cX9_wish 3 = .ok (.invokevirtual 124, 3) := by decide +kernel
theorem dX9_wish_6 : decode cX9_wish 6 = .ok (.ifCond .eq 12, 3) := by decide +kernel
theorem dX9_wish_18 : decode cX9_wish 18 = .ok (.iconst (-1), 1) := by decide +kernel
theorem dX9_wish_19 : decode cX9_wish 19 = .ok (.ireturn, 1) := by decide +kernel
