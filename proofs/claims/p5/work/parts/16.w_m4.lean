theorem inX9 : ∀ w ∈ u_ws RX9 TX9 15, w ∈ gT := by decide +kernel
theorem tw_1 : Cond.initialized RX9 ∈ gT := gT_t (List.mem_of_getElem? (i := 1) (by decide +kernel)) (by decide +kernel)
theorem tw_13 : Cond.initialized RX1 ∈ gT := gT_t (List.mem_of_getElem? (i := 13) (by decide +kernel)) (by decide +kernel)
theorem tw_14 : Cond.initialized RX2 ∈ gT := gT_t (List.mem_of_getElem? (i := 14) (by decide +kernel)) (by decide +kernel)
theorem tw_22 : Cond.initialized RJ6 ∈ gT := gT_t (List.mem_of_getElem? (i := 22) (by decide +kernel)) (by decide +kernel)
theorem tw_345 : Cond.methodLink RX9 (86 : Nat) yJ7_fill_53178 ∈ gT := gT_t (List.mem_of_getElem? (i := 345) (by decide +kernel)) (by decide +kernel)
theorem tw_346 : Cond.fieldLink RX9 (10 : Nat) "WonderParcels" "tape" "LWonderParcels$Tape;" ∈ gT := gT_t (List.mem_of_getElem? (i := 346) (by decide +kernel)) (by decide +kernel)
theorem tw_347 : Cond.fieldLink RX9 (65 : Nat) "WonderParcels" "world" "LWonderParcels$World;" ∈ gT := gT_t (List.mem_of_getElem? (i := 347) (by decide +kernel)) (by decide +kernel)
theorem tw_348 : Cond.fieldLink RX9 (69 : Nat) "WonderParcels" "trial" "LWonderParcels$World;" ∈ gT := gT_t (List.mem_of_getElem? (i := 348) (by decide +kernel)) (by decide +kernel)
theorem tw_349 : Cond.fieldLink RX9 (75 : Nat) "WonderParcels" "history" "LWonderParcels$History;" ∈ gT := gT_t (List.mem_of_getElem? (i := 349) (by decide +kernel)) (by decide +kernel)
theorem tw_350 : Cond.fieldLink RX9 (82 : Nat) "WonderParcels" "images" "[LWonderParcels$Image;" ∈ gT := gT_t (List.mem_of_getElem? (i := 350) (by decide +kernel)) (by decide +kernel)
theorem tw_351 : Cond.fieldLink RX9 (117 : Nat) "WonderParcels" "sentence" "LWonderParcels$Sentence;" ∈ gT := gT_t (List.mem_of_getElem? (i := 351) (by decide +kernel)) (by decide +kernel)
theorem tw_353 : Cond.fieldLink RX9 (23 : Nat) "WonderParcels" "bookTold" "[I" ∈ gT := gT_t (List.mem_of_getElem? (i := 353) (by decide +kernel)) (by decide +kernel)
theorem tw_354 : Cond.fieldLink RX9 (30 : Nat) "WonderParcels" "fewRooms" "LWonderParcels$Rooms;" ∈ gT := gT_t (List.mem_of_getElem? (i := 354) (by decide +kernel)) (by decide +kernel)
theorem tw_355 : Cond.fieldLink RX9 (34 : Nat) "WonderParcels" "seatsAtRest" "[I" ∈ gT := gT_t (List.mem_of_getElem? (i := 355) (by decide +kernel)) (by decide +kernel)
theorem tw_356 : Cond.fieldLink RX9 (40 : Nat) "WonderParcels" "latestTag" "LWonderParcels$Tag;" ∈ gT := gT_t (List.mem_of_getElem? (i := 356) (by decide +kernel)) (by decide +kernel)
theorem tw_357 : Cond.fieldLink RX9 (44 : Nat) "WonderParcels" "latestFault" "I" ∈ gT := gT_t (List.mem_of_getElem? (i := 357) (by decide +kernel)) (by decide +kernel)
theorem tw_358 : Cond.fieldLink RX9 (48 : Nat) "WonderParcels" "whoWouldSit" "I" ∈ gT := gT_t (List.mem_of_getElem? (i := 358) (by decide +kernel)) (by decide +kernel)
theorem tw_359 : Cond.fieldLink RX9 (51 : Nat) "WonderParcels" "whoSurely" "I" ∈ gT := gT_t (List.mem_of_getElem? (i := 359) (by decide +kernel)) (by decide +kernel)
theorem tw_360 : Cond.fieldLink RX9 (54 : Nat) "WonderParcels" "whomToAsk" "I" ∈ gT := gT_t (List.mem_of_getElem? (i := 360) (by decide +kernel)) (by decide +kernel)
theorem tw_396 : Cond.methodLink RX9 (92 : Nat) yX7_hasPlaceForTwenty ∈ gT := gT_t (List.mem_of_getElem? (i := 396) (by decide +kernel)) (by decide +kernel)
theorem tw_397 : Cond.instanceMethod yX7_hasPlaceForTwenty ∈ gT := gT_t (List.mem_of_getElem? (i := 397) (by decide +kernel)) (by decide +kernel)
theorem tw_398 : Cond.selects RX7 yX7_hasPlaceForTwenty yX7_hasPlaceForTwenty ∈ gT := gT_t (List.mem_of_getElem? (i := 398) (by decide +kernel)) (by decide +kernel)
theorem tw_399 : Cond.code yX7_hasPlaceForTwenty cX7_hasPlaceForTwenty 1 (some .boolean) ∈ gT := gT_t (List.mem_of_getElem? (i := 399) (by decide +kernel)) (by decide +kernel)
theorem tw_400 : Cond.methodLink RX9 (96 : Nat) yX7_putFour ∈ gT := gT_t (List.mem_of_getElem? (i := 400) (by decide +kernel)) (by decide +kernel)
theorem tw_401 : Cond.instanceMethod yX7_putFour ∈ gT := gT_t (List.mem_of_getElem? (i := 401) (by decide +kernel)) (by decide +kernel)
theorem tw_402 : Cond.selects RX7 yX7_putFour yX7_putFour ∈ gT := gT_t (List.mem_of_getElem? (i := 402) (by decide +kernel)) (by decide +kernel)
theorem tw_403 : Cond.code yX7_putFour cX7_putFour 3 none ∈ gT := gT_t (List.mem_of_getElem? (i := 403) (by decide +kernel)) (by decide +kernel)
theorem tw_521 : Cond.methodLink RX9 (113 : Nat) yX8_takeFrom ∈ gT := gT_t (List.mem_of_getElem? (i := 521) (by decide +kernel)) (by decide +kernel)
theorem tw_528 : Cond.methodLink RX9 (121 : Nat) yX1_forget ∈ gT := gT_t (List.mem_of_getElem? (i := 528) (by decide +kernel)) (by decide +kernel)
theorem tw_529 : Cond.instanceMethod yX1_forget ∈ gT := gT_t (List.mem_of_getElem? (i := 529) (by decide +kernel)) (by decide +kernel)
theorem tw_530 : Cond.selects RX1 yX1_forget yX1_forget ∈ gT := gT_t (List.mem_of_getElem? (i := 530) (by decide +kernel)) (by decide +kernel)
theorem tw_531 : Cond.code yX1_forget cX1_forget 1 none ∈ gT := gT_t (List.mem_of_getElem? (i := 531) (by decide +kernel)) (by decide +kernel)
theorem tw_540 : Cond.methodLink RX9 (124 : Nat) yX9_isOf ∈ gT := gT_t (List.mem_of_getElem? (i := 540) (by decide +kernel)) (by decide +kernel)
theorem tw_542 : Cond.instanceMethod yX9_isOf ∈ gT := gT_t (List.mem_of_getElem? (i := 542) (by decide +kernel)) (by decide +kernel)
theorem tw_543 : Cond.code yX9_isOf cX9_isOf 3 (some .boolean) ∈ gT := gT_t (List.mem_of_getElem? (i := 543) (by decide +kernel)) (by decide +kernel)
theorem tw_544 : Cond.methodLink RX9 (128 : Nat) yX8_has ∈ gT := gT_t (List.mem_of_getElem? (i := 544) (by decide +kernel)) (by decide +kernel)
theorem tw_557 : Cond.methodLink RX9 (195 : Nat) yX8_whichAreOpen ∈ gT := gT_t (List.mem_of_getElem? (i := 557) (by decide +kernel)) (by decide +kernel)
theorem tw_558 : Cond.instanceMethod yX8_whichAreOpen ∈ gT := gT_t (List.mem_of_getElem? (i := 558) (by decide +kernel)) (by decide +kernel)
theorem tw_559 : Cond.selects RX8 yX8_whichAreOpen yX8_whichAreOpen ∈ gT := gT_t (List.mem_of_getElem? (i := 559) (by decide +kernel)) (by decide +kernel)
theorem tw_560 : Cond.code yX8_whichAreOpen cX8_whichAreOpen 3 (some .int) ∈ gT := gT_t (List.mem_of_getElem? (i := 560) (by decide +kernel)) (by decide +kernel)
theorem tw_565 : Cond.methodLink RX9 (199 : Nat) yX8_whichAreNothing ∈ gT := gT_t (List.mem_of_getElem? (i := 565) (by decide +kernel)) (by decide +kernel)
theorem tw_566 : Cond.instanceMethod yX8_whichAreNothing ∈ gT := gT_t (List.mem_of_getElem? (i := 566) (by decide +kernel)) (by decide +kernel)
theorem tw_567 : Cond.selects RX8 yX8_whichAreNothing yX8_whichAreNothing ∈ gT := gT_t (List.mem_of_getElem? (i := 567) (by decide +kernel)) (by decide +kernel)
theorem tw_568 : Cond.code yX8_whichAreNothing cX8_whichAreNothing 3 (some .int) ∈ gT := gT_t (List.mem_of_getElem? (i := 568) (by decide +kernel)) (by decide +kernel)
theorem tw_581 : Cond.methodLink RX9 (202 : Nat) yX8_whichAreWatched ∈ gT := gT_t (List.mem_of_getElem? (i := 581) (by decide +kernel)) (by decide +kernel)
theorem tw_582 : Cond.instanceMethod yX8_whichAreWatched ∈ gT := gT_t (List.mem_of_getElem? (i := 582) (by decide +kernel)) (by decide +kernel)
theorem tw_583 : Cond.selects RX8 yX8_whichAreWatched yX8_whichAreWatched ∈ gT := gT_t (List.mem_of_getElem? (i := 583) (by decide +kernel)) (by decide +kernel)
theorem tw_584 : Cond.code yX8_whichAreWatched cX8_whichAreWatched 3 (some .int) ∈ gT := gT_t (List.mem_of_getElem? (i := 584) (by decide +kernel)) (by decide +kernel)
theorem tw_589 : Cond.methodLink RX9 (205 : Nat) yX8_allThatAllHave ∈ gT := gT_t (List.mem_of_getElem? (i := 589) (by decide +kernel)) (by decide +kernel)
theorem tw_590 : Cond.instanceMethod yX8_allThatAllHave ∈ gT := gT_t (List.mem_of_getElem? (i := 590) (by decide +kernel)) (by decide +kernel)
theorem tw_591 : Cond.selects RX8 yX8_allThatAllHave yX8_allThatAllHave ∈ gT := gT_t (List.mem_of_getElem? (i := 591) (by decide +kernel)) (by decide +kernel)
theorem tw_592 : Cond.code yX8_allThatAllHave cX8_allThatAllHave 3 (some .int) ∈ gT := gT_t (List.mem_of_getElem? (i := 592) (by decide +kernel)) (by decide +kernel)
theorem tw_598 : Cond.methodLink RX9 (208 : Nat) yX8_sumOfParcels ∈ gT := gT_t (List.mem_of_getElem? (i := 598) (by decide +kernel)) (by decide +kernel)
theorem tw_599 : Cond.instanceMethod yX8_sumOfParcels ∈ gT := gT_t (List.mem_of_getElem? (i := 599) (by decide +kernel)) (by decide +kernel)
theorem tw_600 : Cond.selects RX8 yX8_sumOfParcels yX8_sumOfParcels ∈ gT := gT_t (List.mem_of_getElem? (i := 600) (by decide +kernel)) (by decide +kernel)
theorem tw_601 : Cond.code yX8_sumOfParcels cX8_sumOfParcels 4 (some .int) ∈ gT := gT_t (List.mem_of_getElem? (i := 601) (by decide +kernel)) (by decide +kernel)
theorem tw_606 : Cond.methodLink RX9 (212 : Nat) yX1_prepare ∈ gT := gT_t (List.mem_of_getElem? (i := 606) (by decide +kernel)) (by decide +kernel)
theorem tw_607 : Cond.instanceMethod yX1_prepare ∈ gT := gT_t (List.mem_of_getElem? (i := 607) (by decide +kernel)) (by decide +kernel)
theorem tw_608 : Cond.selects RX1 yX1_prepare yX1_prepare ∈ gT := gT_t (List.mem_of_getElem? (i := 608) (by decide +kernel)) (by decide +kernel)
theorem tw_609 : Cond.code yX1_prepare cX1_prepare 2 none ∈ gT := gT_t (List.mem_of_getElem? (i := 609) (by decide +kernel)) (by decide +kernel)
theorem tw_611 : Cond.methodLink RX9 (215 : Nat) yX8_sitDown ∈ gT := gT_t (List.mem_of_getElem? (i := 611) (by decide +kernel)) (by decide +kernel)
theorem tw_615 : Cond.methodLink RX9 (218 : Nat) yX9_keptIfDone ∈ gT := gT_t (List.mem_of_getElem? (i := 615) (by decide +kernel)) (by decide +kernel)
theorem tw_617 : Cond.instanceMethod yX9_keptIfDone ∈ gT := gT_t (List.mem_of_getElem? (i := 617) (by decide +kernel)) (by decide +kernel)
theorem tw_618 : Cond.code yX9_keptIfDone cX9_keptIfDone 2 (some .int) ∈ gT := gT_t (List.mem_of_getElem? (i := 618) (by decide +kernel)) (by decide +kernel)
theorem tw_619 : Cond.methodLink RX9 (230 : Nat) yX1_keep ∈ gT := gT_t (List.mem_of_getElem? (i := 619) (by decide +kernel)) (by decide +kernel)
theorem tw_620 : Cond.instanceMethod yX1_keep ∈ gT := gT_t (List.mem_of_getElem? (i := 620) (by decide +kernel)) (by decide +kernel)
theorem tw_621 : Cond.selects RX1 yX1_keep yX1_keep ∈ gT := gT_t (List.mem_of_getElem? (i := 621) (by decide +kernel)) (by decide +kernel)
theorem tw_622 : Cond.code yX1_keep cX1_keep 1 none ∈ gT := gT_t (List.mem_of_getElem? (i := 622) (by decide +kernel)) (by decide +kernel)
theorem tw_628 : Cond.methodLink RX9 (221 : Nat) yX8_standUp ∈ gT := gT_t (List.mem_of_getElem? (i := 628) (by decide +kernel)) (by decide +kernel)
theorem tw_636 : Cond.methodLink RX9 (224 : Nat) yX8_wishFor ∈ gT := gT_t (List.mem_of_getElem? (i := 636) (by decide +kernel)) (by decide +kernel)
theorem tw_644 : Cond.methodLink RX9 (227 : Nat) yX8_whyNoGuess ∈ gT := gT_t (List.mem_of_getElem? (i := 644) (by decide +kernel)) (by decide +kernel)
theorem tw_648 : Cond.methodLink RX9 (233 : Nat) yX8_guessAt ∈ gT := gT_t (List.mem_of_getElem? (i := 648) (by decide +kernel)) (by decide +kernel)
theorem tw_661 : Cond.methodLink RX9 (236 : Nat) yX8_openUp ∈ gT := gT_t (List.mem_of_getElem? (i := 661) (by decide +kernel)) (by decide +kernel)
theorem tw_662 : Cond.instanceMethod yX8_openUp ∈ gT := gT_t (List.mem_of_getElem? (i := 662) (by decide +kernel)) (by decide +kernel)
theorem tw_663 : Cond.selects RX8 yX8_openUp yX8_openUp ∈ gT := gT_t (List.mem_of_getElem? (i := 663) (by decide +kernel)) (by decide +kernel)
theorem tw_664 : Cond.code yX8_openUp cX8_openUp 2 (some .int) ∈ gT := gT_t (List.mem_of_getElem? (i := 664) (by decide +kernel)) (by decide +kernel)
theorem tw_669 : Cond.methodLink RX9 (239 : Nat) yX8_carryTo ∈ gT := gT_t (List.mem_of_getElem? (i := 669) (by decide +kernel)) (by decide +kernel)
theorem tw_670 : Cond.instanceMethod yX8_carryTo ∈ gT := gT_t (List.mem_of_getElem? (i := 670) (by decide +kernel)) (by decide +kernel)
theorem tw_671 : Cond.selects RX8 yX8_carryTo yX8_carryTo ∈ gT := gT_t (List.mem_of_getElem? (i := 671) (by decide +kernel)) (by decide +kernel)
theorem tw_672 : Cond.code yX8_carryTo cX8_carryTo 3 (some .int) ∈ gT := gT_t (List.mem_of_getElem? (i := 672) (by decide +kernel)) (by decide +kernel)
theorem tw_677 : Cond.methodLink RX9 (242 : Nat) yX8_goDays ∈ gT := gT_t (List.mem_of_getElem? (i := 677) (by decide +kernel)) (by decide +kernel)
theorem tw_678 : Cond.instanceMethod yX8_goDays ∈ gT := gT_t (List.mem_of_getElem? (i := 678) (by decide +kernel)) (by decide +kernel)
theorem tw_679 : Cond.selects RX8 yX8_goDays yX8_goDays ∈ gT := gT_t (List.mem_of_getElem? (i := 679) (by decide +kernel)) (by decide +kernel)
theorem tw_680 : Cond.code yX8_goDays cX8_goDays 4 (some .int) ∈ gT := gT_t (List.mem_of_getElem? (i := 680) (by decide +kernel)) (by decide +kernel)
theorem tw_709 : Cond.methodLink RX9 (245 : Nat) yX9_keptIfSome ∈ gT := gT_t (List.mem_of_getElem? (i := 709) (by decide +kernel)) (by decide +kernel)
theorem tw_711 : Cond.instanceMethod yX9_keptIfSome ∈ gT := gT_t (List.mem_of_getElem? (i := 711) (by decide +kernel)) (by decide +kernel)
theorem tw_712 : Cond.code yX9_keptIfSome cX9_keptIfSome 2 (some .int) ∈ gT := gT_t (List.mem_of_getElem? (i := 712) (by decide +kernel)) (by decide +kernel)
theorem tw_717 : Cond.methodLink RX9 (248 : Nat) yX1_giveBack ∈ gT := gT_t (List.mem_of_getElem? (i := 717) (by decide +kernel)) (by decide +kernel)
theorem tw_718 : Cond.instanceMethod yX1_giveBack ∈ gT := gT_t (List.mem_of_getElem? (i := 718) (by decide +kernel)) (by decide +kernel)
theorem tw_719 : Cond.selects RX1 yX1_giveBack yX1_giveBack ∈ gT := gT_t (List.mem_of_getElem? (i := 719) (by decide +kernel)) (by decide +kernel)
theorem tw_720 : Cond.code yX1_giveBack cX1_giveBack 2 (some .int) ∈ gT := gT_t (List.mem_of_getElem? (i := 720) (by decide +kernel)) (by decide +kernel)
theorem tw_725 : Cond.methodLink RX9 (252 : Nat) yX8_daysLeft ∈ gT := gT_t (List.mem_of_getElem? (i := 725) (by decide +kernel)) (by decide +kernel)
theorem tw_726 : Cond.methodLink RX9 (255 : Nat) yJ9_min_7cf53 ∈ gT := gT_t (List.mem_of_getElem? (i := 726) (by decide +kernel)) (by decide +kernel)
theorem tw_727 : Cond.methodLink RX9 (260 : Nat) yX8_reckonGain ∈ gT := gT_t (List.mem_of_getElem? (i := 727) (by decide +kernel)) (by decide +kernel)
theorem tw_728 : Cond.methodLink RX9 (264 : Nat) yX8_becomes ∈ gT := gT_t (List.mem_of_getElem? (i := 728) (by decide +kernel)) (by decide +kernel)
theorem tw_733 : Cond.methodLink RX9 (267 : Nat) yX8_isOpen ∈ gT := gT_t (List.mem_of_getElem? (i := 733) (by decide +kernel)) (by decide +kernel)
theorem tw_734 : Cond.methodLink RX9 (270 : Nat) yX9_fewestSitters ∈ gT := gT_t (List.mem_of_getElem? (i := 734) (by decide +kernel)) (by decide +kernel)
theorem tw_736 : Cond.instanceMethod yX9_fewestSitters ∈ gT := gT_t (List.mem_of_getElem? (i := 736) (by decide +kernel)) (by decide +kernel)
theorem tw_737 : Cond.code yX9_fewestSitters cX9_fewestSitters 7 (some .int) ∈ gT := gT_t (List.mem_of_getElem? (i := 737) (by decide +kernel)) (by decide +kernel)
theorem tw_738 : Cond.methodLink RX9 (274 : Nat) yJ6_bitCount_0f7a4 ∈ gT := gT_t (List.mem_of_getElem? (i := 738) (by decide +kernel)) (by decide +kernel)
theorem tw_739 : Cond.static yJ6_bitCount_0f7a4 ∈ gT := gT_t (List.mem_of_getElem? (i := 739) (by decide +kernel)) (by decide +kernel)
theorem tw_740 : Cond.code yJ6_bitCount_0f7a4 cJ6_bitCount_0f7a4 1 (some .int) ∈ gT := gT_t (List.mem_of_getElem? (i := 740) (by decide +kernel)) (by decide +kernel)
theorem tw_741 : Cond.constant RJ6 (265 : Nat) (1431655765 : Int32) ∈ gT := gT_t (List.mem_of_getElem? (i := 741) (by decide +kernel)) (by decide +kernel)
theorem tw_742 : Cond.constant RJ6 (266 : Nat) (858993459 : Int32) ∈ gT := gT_t (List.mem_of_getElem? (i := 742) (by decide +kernel)) (by decide +kernel)
theorem tw_743 : Cond.constant RJ6 (267 : Nat) (252645135 : Int32) ∈ gT := gT_t (List.mem_of_getElem? (i := 743) (by decide +kernel)) (by decide +kernel)
theorem tw_744 : Cond.methodLink RX9 (370 : Nat) yX8_seatJust ∈ gT := gT_t (List.mem_of_getElem? (i := 744) (by decide +kernel)) (by decide +kernel)
theorem tw_745 : Cond.instanceMethod yX8_seatJust ∈ gT := gT_t (List.mem_of_getElem? (i := 745) (by decide +kernel)) (by decide +kernel)
theorem tw_746 : Cond.selects RX8 yX8_seatJust yX8_seatJust ∈ gT := gT_t (List.mem_of_getElem? (i := 746) (by decide +kernel)) (by decide +kernel)
theorem tw_747 : Cond.code yX8_seatJust cX8_seatJust 5 none ∈ gT := gT_t (List.mem_of_getElem? (i := 747) (by decide +kernel)) (by decide +kernel)
theorem tw_783 : Cond.methodLink RX9 (139 : Nat) yX8_isNow ∈ gT := gT_t (List.mem_of_getElem? (i := 783) (by decide +kernel)) (by decide +kernel)
theorem tw_784 : Cond.methodLink RX9 (286 : Nat) yX8_lessBy ∈ gT := gT_t (List.mem_of_getElem? (i := 784) (by decide +kernel)) (by decide +kernel)
theorem tw_789 : Cond.methodLink RX9 (290 : Nat) yX4_fewestFor ∈ gT := gT_t (List.mem_of_getElem? (i := 789) (by decide +kernel)) (by decide +kernel)
theorem tw_790 : Cond.instanceMethod yX4_fewestFor ∈ gT := gT_t (List.mem_of_getElem? (i := 790) (by decide +kernel)) (by decide +kernel)
theorem tw_791 : Cond.selects RX4 yX4_fewestFor yX4_fewestFor ∈ gT := gT_t (List.mem_of_getElem? (i := 791) (by decide +kernel)) (by decide +kernel)
theorem tw_792 : Cond.code yX4_fewestFor cX4_fewestFor 4 (some .int) ∈ gT := gT_t (List.mem_of_getElem? (i := 792) (by decide +kernel)) (by decide +kernel)
theorem tw_811 : Cond.methodLink RX9 (294 : Nat) yX8_settleAll ∈ gT := gT_t (List.mem_of_getElem? (i := 811) (by decide +kernel)) (by decide +kernel)
theorem tw_812 : Cond.instanceMethod yX8_settleAll ∈ gT := gT_t (List.mem_of_getElem? (i := 812) (by decide +kernel)) (by decide +kernel)
theorem tw_813 : Cond.selects RX8 yX8_settleAll yX8_settleAll ∈ gT := gT_t (List.mem_of_getElem? (i := 813) (by decide +kernel)) (by decide +kernel)
theorem tw_814 : Cond.code yX8_settleAll cX8_settleAll 5 (some .int) ∈ gT := gT_t (List.mem_of_getElem? (i := 814) (by decide +kernel)) (by decide +kernel)
theorem tw_819 : Cond.methodLink RX9 (300 : Nat) (⟨"java/lang/System", "arraycopy", "(Ljava/lang/Object;ILjava/lang/Object;II)V"⟩ : MethodName) ∈ gT := gT_t (List.mem_of_getElem? (i := 819) (by decide +kernel)) (by decide +kernel)
theorem tw_828 : Cond.methodLink RX9 (146 : Nat) yX8_sizeOf ∈ gT := gT_t (List.mem_of_getElem? (i := 828) (by decide +kernel)) (by decide +kernel)
theorem tw_862 : Cond.methodLink RX9 (328 : Nat) yX8_drawDays ∈ gT := gT_t (List.mem_of_getElem? (i := 862) (by decide +kernel)) (by decide +kernel)
theorem tw_863 : Cond.instanceMethod yX8_drawDays ∈ gT := gT_t (List.mem_of_getElem? (i := 863) (by decide +kernel)) (by decide +kernel)
theorem tw_864 : Cond.selects RX8 yX8_drawDays yX8_drawDays ∈ gT := gT_t (List.mem_of_getElem? (i := 864) (by decide +kernel)) (by decide +kernel)
theorem tw_865 : Cond.code yX8_drawDays cX8_drawDays 6 (some .int) ∈ gT := gT_t (List.mem_of_getElem? (i := 865) (by decide +kernel)) (by decide +kernel)
theorem tw_1003 : Cond.methodLink RX9 (347 : Nat) yX5_holdsOf ∈ gT := gT_t (List.mem_of_getElem? (i := 1003) (by decide +kernel)) (by decide +kernel)
theorem tw_1004 : Cond.instanceMethod yX5_holdsOf ∈ gT := gT_t (List.mem_of_getElem? (i := 1004) (by decide +kernel)) (by decide +kernel)
theorem tw_1005 : Cond.selects RX5 yX5_holdsOf yX5_holdsOf ∈ gT := gT_t (List.mem_of_getElem? (i := 1005) (by decide +kernel)) (by decide +kernel)
theorem tw_1006 : Cond.code yX5_holdsOf cX5_holdsOf 6 (some .boolean) ∈ gT := gT_t (List.mem_of_getElem? (i := 1006) (by decide +kernel)) (by decide +kernel)
theorem tw_1022 : Cond.methodLink RX9 (351 : Nat) yX2_take ∈ gT := gT_t (List.mem_of_getElem? (i := 1022) (by decide +kernel)) (by decide +kernel)
theorem tw_1023 : Cond.instanceMethod yX2_take ∈ gT := gT_t (List.mem_of_getElem? (i := 1023) (by decide +kernel)) (by decide +kernel)
theorem tw_1024 : Cond.selects RX2 yX2_take yX2_take ∈ gT := gT_t (List.mem_of_getElem? (i := 1024) (by decide +kernel)) (by decide +kernel)
theorem tw_1025 : Cond.code yX2_take cX2_take 3 none ∈ gT := gT_t (List.mem_of_getElem? (i := 1025) (by decide +kernel)) (by decide +kernel)
theorem tn_90 : Cond.fieldLinkNest RX9 (100 : Nat) "WonderParcels$Tape" "length" "I" "WonderParcels" ∈ nW := nW_t (List.mem_of_getElem? (i := 90) (by decide +kernel)) (by decide +kernel)
theorem tn_106 : Cond.fieldLinkNest RX9 (367 : Nat) "WonderParcels$Tape" "fault" "I" "WonderParcels" ∈ nW := nW_t (List.mem_of_getElem? (i := 106) (by decide +kernel)) (by decide +kernel)
theorem tn_171 : Cond.fieldLinkNest RX9 (293 : Nat) "WonderParcels$Rooms" "room" "[I" "WonderParcels" ∈ nW := nW_t (List.mem_of_getElem? (i := 171) (by decide +kernel)) (by decide +kernel)
theorem tn_184 : Cond.fieldLinkNest RX9 (324 : Nat) "WonderParcels$Tag" "bytes" "[B" "WonderParcels" ∈ nW := nW_t (List.mem_of_getElem? (i := 184) (by decide +kernel)) (by decide +kernel)
theorem tn_186 : Cond.fieldLinkNest RX9 (306 : Nat) "WonderParcels$Tag" "length" "I" "WonderParcels" ∈ nW := nW_t (List.mem_of_getElem? (i := 186) (by decide +kernel)) (by decide +kernel)
theorem tn_204 : Cond.fieldLinkNest RX9 (297 : Nat) "WonderParcels$Post" "many" "[I" "WonderParcels" ∈ nW := nW_t (List.mem_of_getElem? (i := 204) (by decide +kernel)) (by decide +kernel)
theorem tn_207 : Cond.fieldLinkNest RX9 (186 : Nat) "WonderParcels$Post" "need" "[I" "WonderParcels" ∈ nW := nW_t (List.mem_of_getElem? (i := 207) (by decide +kernel)) (by decide +kernel)
theorem tn_209 : Cond.fieldLinkNest RX9 (189 : Nat) "WonderParcels$Post" "quarrel" "[I" "WonderParcels" ∈ nW := nW_t (List.mem_of_getElem? (i := 209) (by decide +kernel)) (by decide +kernel)
theorem tn_215 : Cond.fieldLinkNest RX9 (361 : Nat) "WonderParcels$Post" "leak" "I" "WonderParcels" ∈ nW := nW_t (List.mem_of_getElem? (i := 215) (by decide +kernel)) (by decide +kernel)
theorem tn_218 : Cond.fieldLinkNest RX9 (364 : Nat) "WonderParcels$Post" "guess" "I" "WonderParcels" ∈ nW := nW_t (List.mem_of_getElem? (i := 218) (by decide +kernel)) (by decide +kernel)
theorem tn_249 : Cond.fieldLinkNest RX9 (168 : Nat) "WonderParcels$World" "post" "LWonderParcels$Post;" "WonderParcels" ∈ nW := nW_t (List.mem_of_getElem? (i := 249) (by decide +kernel)) (by decide +kernel)
theorem tn_251 : Cond.fieldLinkNest RX9 (192 : Nat) "WonderParcels$World" "day" "I" "WonderParcels" ∈ nW := nW_t (List.mem_of_getElem? (i := 251) (by decide +kernel)) (by decide +kernel)
theorem tn_258 : Cond.fieldLinkNest RX9 (149 : Nat) "WonderParcels$World" "bulge" "[I" "WonderParcels" ∈ nW := nW_t (List.mem_of_getElem? (i := 258) (by decide +kernel)) (by decide +kernel)
theorem tn_263 : Cond.fieldLinkNest RX9 (155 : Nat) "WonderParcels$World" "turned" "[I" "WonderParcels" ∈ nW := nW_t (List.mem_of_getElem? (i := 263) (by decide +kernel)) (by decide +kernel)
theorem tn_269 : Cond.fieldLinkNest RX9 (175 : Nat) "WonderParcels$World" "seat" "[I" "WonderParcels" ∈ nW := nW_t (List.mem_of_getElem? (i := 269) (by decide +kernel)) (by decide +kernel)
theorem tn_333 : Cond.fieldLinkNest RX9 (359 : Nat) "WonderParcels$Image" "world" "LWonderParcels$World;" "WonderParcels" ∈ nW := nW_t (List.mem_of_getElem? (i := 333) (by decide +kernel)) (by decide +kernel)
theorem tn_335 : Cond.fieldLinkNest RX9 (360 : Nat) "WonderParcels$Image" "sentence" "LWonderParcels$Sentence;" "WonderParcels" ∈ nW := nW_t (List.mem_of_getElem? (i := 335) (by decide +kernel)) (by decide +kernel)
theorem tn_337 : Cond.fieldLinkNest RX9 (355 : Nat) "WonderParcels$Image" "taken" "Z" "WonderParcels" ∈ nW := nW_t (List.mem_of_getElem? (i := 337) (by decide +kernel)) (by decide +kernel)
theorem ts_10 : Cond.selects RX9 yX9_isOf yX9_isOf ∈ gT := gT_s (by decide +kernel) (by decide +kernel)
theorem ts_12 : Cond.selects RX9 yX9_keptIfDone yX9_keptIfDone ∈ gT := gT_s (by decide +kernel) (by decide +kernel)
theorem ts_17 : Cond.selects RX9 yX9_keptIfSome yX9_keptIfSome ∈ gT := gT_s (by decide +kernel) (by decide +kernel)
theorem ts_18 : Cond.selects RX9 yX9_fewestSitters yX9_fewestSitters ∈ gT := gT_s (by decide +kernel) (by decide +kernel)
theorem dJ6_bitCount_0f7a4_0 : decode cJ6_bitCount_0f7a4 0 = .ok (.iload_n 0, 1) := by decide +kernel
theorem dJ6_bitCount_0f7a4_1 : decode cJ6_bitCount_0f7a4 1 = .ok (.iload_n 0, 1) := by decide +kernel
theorem dJ6_bitCount_0f7a4_2 : decode cJ6_bitCount_0f7a4 2 = .ok (.iconst 1, 1) := by decide +kernel
theorem dJ6_bitCount_0f7a4_3 : decode cJ6_bitCount_0f7a4 3 = .ok (.iushr, 1) := by decide +kernel
theorem dJ6_bitCount_0f7a4_4 : decode cJ6_bitCount_0f7a4 4 = .ok (.ldc_w 265, 3) := by decide +kernel
theorem dJ6_bitCount_0f7a4_7 : decode cJ6_bitCount_0f7a4 7 = .ok (.iand, 1) := by decide +kernel
theorem dJ6_bitCount_0f7a4_8 : decode cJ6_bitCount_0f7a4 8 = .ok (.isub, 1) := by decide +kernel
theorem dJ6_bitCount_0f7a4_9 : decode cJ6_bitCount_0f7a4 9 = .ok (.istore_n 0, 1) := by decide +kernel
theorem dJ6_bitCount_0f7a4_10 : decode cJ6_bitCount_0f7a4 10 = .ok (.iload_n 0, 1) := by decide +kernel
theorem dJ6_bitCount_0f7a4_11 : decode cJ6_bitCount_0f7a4 11 = .ok (.ldc_w 266, 3) := by decide +kernel
theorem dJ6_bitCount_0f7a4_14 : decode cJ6_bitCount_0f7a4 14 = .ok (.iand, 1) := by decide +kernel
theorem dJ6_bitCount_0f7a4_15 : decode cJ6_bitCount_0f7a4 15 = .ok (.iload_n 0, 1) := by decide +kernel
theorem dJ6_bitCount_0f7a4_16 : decode cJ6_bitCount_0f7a4 16 = .ok (.iconst 2, 1) := by decide +kernel
theorem dJ6_bitCount_0f7a4_17 : decode cJ6_bitCount_0f7a4 17 = .ok (.iushr, 1) := by decide +kernel
theorem dJ6_bitCount_0f7a4_18 : decode cJ6_bitCount_0f7a4 18 = .ok (.ldc_w 266, 3) := by decide +kernel
theorem dJ6_bitCount_0f7a4_21 : decode cJ6_bitCount_0f7a4 21 = .ok (.iand, 1) := by decide +kernel
theorem dJ6_bitCount_0f7a4_22 : decode cJ6_bitCount_0f7a4 22 = .ok (.iadd, 1) := by decide +kernel
theorem dJ6_bitCount_0f7a4_23 : decode cJ6_bitCount_0f7a4 23 = .ok (.istore_n 0, 1) := by decide +kernel
theorem dJ6_bitCount_0f7a4_24 : decode cJ6_bitCount_0f7a4 24 = .ok (.iload_n 0, 1) := by decide +kernel
theorem dJ6_bitCount_0f7a4_25 : decode cJ6_bitCount_0f7a4 25 = .ok (.iload_n 0, 1) := by decide +kernel
theorem dJ6_bitCount_0f7a4_26 : decode cJ6_bitCount_0f7a4 26 = .ok (.iconst 4, 1) := by decide +kernel
theorem dJ6_bitCount_0f7a4_27 : decode cJ6_bitCount_0f7a4 27 = .ok (.iushr, 1) := by decide +kernel
theorem dJ6_bitCount_0f7a4_28 : decode cJ6_bitCount_0f7a4 28 = .ok (.iadd, 1) := by decide +kernel
theorem dJ6_bitCount_0f7a4_29 : decode cJ6_bitCount_0f7a4 29 = .ok (.ldc_w 267, 3) := by decide +kernel
theorem dJ6_bitCount_0f7a4_32 : decode cJ6_bitCount_0f7a4 32 = .ok (.iand, 1) := by decide +kernel
theorem dJ6_bitCount_0f7a4_33 : decode cJ6_bitCount_0f7a4 33 = .ok (.istore_n 0, 1) := by decide +kernel
theorem dJ6_bitCount_0f7a4_34 : decode cJ6_bitCount_0f7a4 34 = .ok (.iload_n 0, 1) := by decide +kernel
theorem dJ6_bitCount_0f7a4_35 : decode cJ6_bitCount_0f7a4 35 = .ok (.iload_n 0, 1) := by decide +kernel
theorem dJ6_bitCount_0f7a4_36 : decode cJ6_bitCount_0f7a4 36 = .ok (.bipush 8, 2) := by decide +kernel
theorem dJ6_bitCount_0f7a4_38 : decode cJ6_bitCount_0f7a4 38 = .ok (.iushr, 1) := by decide +kernel
theorem dJ6_bitCount_0f7a4_39 : decode cJ6_bitCount_0f7a4 39 = .ok (.iadd, 1) := by decide +kernel
theorem dJ6_bitCount_0f7a4_40 : decode cJ6_bitCount_0f7a4 40 = .ok (.istore_n 0, 1) := by decide +kernel
theorem dJ6_bitCount_0f7a4_41 : decode cJ6_bitCount_0f7a4 41 = .ok (.iload_n 0, 1) := by decide +kernel
theorem dJ6_bitCount_0f7a4_42 : decode cJ6_bitCount_0f7a4 42 = .ok (.iload_n 0, 1) := by decide +kernel
theorem dJ6_bitCount_0f7a4_43 : decode cJ6_bitCount_0f7a4 43 = .ok (.bipush 16, 2) := by decide +kernel
theorem dJ6_bitCount_0f7a4_45 : decode cJ6_bitCount_0f7a4 45 = .ok (.iushr, 1) := by decide +kernel
theorem dJ6_bitCount_0f7a4_46 : decode cJ6_bitCount_0f7a4 46 = .ok (.iadd, 1) := by decide +kernel
theorem dJ6_bitCount_0f7a4_47 : decode cJ6_bitCount_0f7a4 47 = .ok (.istore_n 0, 1) := by decide +kernel
theorem dJ6_bitCount_0f7a4_48 : decode cJ6_bitCount_0f7a4 48 = .ok (.iload_n 0, 1) := by decide +kernel
theorem dJ6_bitCount_0f7a4_49 : decode cJ6_bitCount_0f7a4 49 = .ok (.bipush 63, 2) := by decide +kernel
theorem dJ6_bitCount_0f7a4_51 : decode cJ6_bitCount_0f7a4 51 = .ok (.iand, 1) := by decide +kernel
theorem dJ6_bitCount_0f7a4_52 : decode cJ6_bitCount_0f7a4 52 = .ok (.ireturn, 1) := by decide +kernel
theorem dX9_ask_0 : decode cX9_ask 0 = .ok (.aload_n 0, 1) := by decide +kernel
theorem dX9_ask_1 : decode cX9_ask 1 = .ok (.getfield 54, 3) := by decide +kernel
theorem dX9_ask_4 : decode cX9_ask 4 = .ok (.ireturn, 1) := by decide +kernel
theorem dX9_byteAt_0 : decode cX9_byteAt 0 = .ok (.iload_n 1, 1) := by decide +kernel
theorem dX9_byteAt_1 : decode cX9_byteAt 1 = .ok (.ifCond .lt 26, 3) := by decide +kernel
theorem dX9_byteAt_4 : decode cX9_byteAt 4 = .ok (.iload_n 1, 1) := by decide +kernel
theorem dX9_byteAt_5 : decode cX9_byteAt 5 = .ok (.aload_n 0, 1) := by decide +kernel
theorem dX9_byteAt_6 : decode cX9_byteAt 6 = .ok (.getfield 40, 3) := by decide +kernel
theorem dX9_byteAt_9 : decode cX9_byteAt 9 = .ok (.getfield 306, 3) := by decide +kernel
theorem dX9_byteAt_12 : decode cX9_byteAt 12 = .ok (.if_icmp .ge 15, 3) := by decide +kernel
theorem dX9_byteAt_15 : decode cX9_byteAt 15 = .ok (.aload_n 0, 1) := by decide +kernel
theorem dX9_byteAt_16 : decode cX9_byteAt 16 = .ok (.getfield 40, 3) := by decide +kernel
theorem dX9_byteAt_19 : decode cX9_byteAt 19 = .ok (.getfield 324, 3) := by decide +kernel
theorem dX9_byteAt_22 : decode cX9_byteAt 22 = .ok (.iload_n 1, 1) := by decide +kernel
theorem dX9_byteAt_23 : decode cX9_byteAt 23 = .ok (.baload, 1) := by decide +kernel
theorem dX9_byteAt_24 : decode cX9_byteAt 24 = .ok (.goto 4, 3) := by decide +kernel
theorem dX9_byteAt_27 : decode cX9_byteAt 27 = .ok (.iconst (-1), 1) := by decide +kernel
theorem dX9_byteAt_28 : decode cX9_byteAt 28 = .ok (.ireturn, 1) := by decide +kernel
theorem dX9_carry_0 : decode cX9_carry 0 = .ok (.aload_n 0, 1) := by decide +kernel
theorem dX9_carry_1 : decode cX9_carry 1 = .ok (.iconst 2, 1) := by decide +kernel
theorem dX9_carry_2 : decode cX9_carry 2 = .ok (.iload_n 1, 1) := by decide +kernel
theorem dX9_carry_3 : decode cX9_carry 3 = .ok (.invokevirtual 124, 3) := by decide +kernel
theorem dX9_carry_6 : decode cX9_carry 6 = .ok (.ifCond .eq 12, 3) := by decide +kernel
theorem dX9_carry_9 : decode cX9_carry 9 = .ok (.aload_n 0, 1) := by decide +kernel
theorem dX9_carry_10 : decode cX9_carry 10 = .ok (.iconst 1, 1) := by decide +kernel
theorem dX9_carry_11 : decode cX9_carry 11 = .ok (.iload_n 2, 1) := by decide +kernel
theorem dX9_carry_12 : decode cX9_carry 12 = .ok (.invokevirtual 124, 3) := by decide +kernel
theorem dX9_carry_15 : decode cX9_carry 15 = .ok (.ifCond .ne 5, 3) := by decide +kernel
theorem dX9_carry_18 : decode cX9_carry 18 = .ok (.iconst (-1), 1) := by decide +kernel
theorem dX9_carry_19 : decode cX9_carry 19 = .ok (.ireturn, 1) := by decide +kernel
theorem dX9_carry_20 : decode cX9_carry 20 = .ok (.aload_n 0, 1) := by decide +kernel
theorem dX9_carry_21 : decode cX9_carry 21 = .ok (.getfield 75, 3) := by decide +kernel
theorem dX9_carry_24 : decode cX9_carry 24 = .ok (.aload_n 0, 1) := by decide +kernel
theorem dX9_carry_25 : decode cX9_carry 25 = .ok (.getfield 65, 3) := by decide +kernel
theorem dX9_carry_28 : decode cX9_carry 28 = .ok (.invokevirtual 212, 3) := by decide +kernel
theorem dX9_carry_31 : decode cX9_carry 31 = .ok (.aload_n 0, 1) := by decide +kernel
theorem dX9_carry_32 : decode cX9_carry 32 = .ok (.aload_n 0, 1) := by decide +kernel
theorem dX9_carry_33 : decode cX9_carry 33 = .ok (.getfield 65, 3) := by decide +kernel
theorem dX9_carry_36 : decode cX9_carry 36 = .ok (.iload_n 1, 1) := by decide +kernel
theorem dX9_carry_37 : decode cX9_carry 37 = .ok (.iload_n 2, 1) := by decide +kernel
theorem dX9_carry_38 : decode cX9_carry 38 = .ok (.invokevirtual 239, 3) := by decide +kernel
theorem dX9_carry_41 : decode cX9_carry 41 = .ok (.invokevirtual 218, 3) := by decide +kernel
theorem dX9_carry_44 : decode cX9_carry 44 = .ok (.ireturn, 1) := by decide +kernel
theorem dX9_count_0 : decode cX9_count 0 = .ok (.iload_n 1, 1) := by decide +kernel
theorem dX9_count_1 : decode cX9_count 1 = .ok (.tableswitch 125 0 6 #[43, 56, 69, 82, 95, 106, 117], 43) := by decide +kernel
theorem dX9_count_44 : decode cX9_count 44 = .ok (.aload_n 0, 1) := by decide +kernel
theorem dX9_count_45 : decode cX9_count 45 = .ok (.getfield 65, 3) := by decide +kernel
theorem dX9_count_48 : decode cX9_count 48 = .ok (.getfield 168, 3) := by decide +kernel
theorem dX9_count_51 : decode cX9_count 51 = .ok (.getfield 297, 3) := by decide +kernel
theorem dX9_count_54 : decode cX9_count 54 = .ok (.iconst 0, 1) := by decide +kernel
theorem dX9_count_55 : decode cX9_count 55 = .ok (.iaload, 1) := by decide +kernel
theorem dX9_count_56 : decode cX9_count 56 = .ok (.ireturn, 1) := by decide +kernel
theorem dX9_count_57 : decode cX9_count 57 = .ok (.aload_n 0, 1) := by decide +kernel
theorem dX9_count_58 : decode cX9_count 58 = .ok (.getfield 65, 3) := by decide +kernel
theorem dX9_count_61 : decode cX9_count 61 = .ok (.getfield 168, 3) := by decide +kernel
theorem dX9_count_64 : decode cX9_count 64 = .ok (.getfield 297, 3) := by decide +kernel
theorem dX9_count_67 : decode cX9_count 67 = .ok (.iconst 1, 1) := by decide +kernel
theorem dX9_count_68 : decode cX9_count 68 = .ok (.iaload, 1) := by decide +kernel
theorem dX9_count_69 : decode cX9_count 69 = .ok (.ireturn, 1) := by decide +kernel
theorem dX9_count_70 : decode cX9_count 70 = .ok (.aload_n 0, 1) := by decide +kernel
theorem dX9_count_71 : decode cX9_count 71 = .ok (.getfield 65, 3) := by decide +kernel
theorem dX9_count_74 : decode cX9_count 74 = .ok (.getfield 168, 3) := by decide +kernel
theorem dX9_count_77 : decode cX9_count 77 = .ok (.getfield 297, 3) := by decide +kernel
theorem dX9_count_80 : decode cX9_count 80 = .ok (.iconst 2, 1) := by decide +kernel
theorem dX9_count_81 : decode cX9_count 81 = .ok (.iaload, 1) := by decide +kernel
theorem dX9_count_82 : decode cX9_count 82 = .ok (.ireturn, 1) := by decide +kernel
theorem dX9_count_83 : decode cX9_count 83 = .ok (.aload_n 0, 1) := by decide +kernel
theorem dX9_count_84 : decode cX9_count 84 = .ok (.getfield 65, 3) := by decide +kernel
theorem dX9_count_87 : decode cX9_count 87 = .ok (.getfield 168, 3) := by decide +kernel
theorem dX9_count_90 : decode cX9_count 90 = .ok (.getfield 297, 3) := by decide +kernel
theorem dX9_count_93 : decode cX9_count 93 = .ok (.iconst 3, 1) := by decide +kernel
theorem dX9_count_94 : decode cX9_count 94 = .ok (.iaload, 1) := by decide +kernel
theorem dX9_count_95 : decode cX9_count 95 = .ok (.ireturn, 1) := by decide +kernel
theorem dX9_count_96 : decode cX9_count 96 = .ok (.aload_n 0, 1) := by decide +kernel
theorem dX9_count_97 : decode cX9_count 97 = .ok (.getfield 65, 3) := by decide +kernel
theorem dX9_count_100 : decode cX9_count 100 = .ok (.getfield 168, 3) := by decide +kernel
theorem dX9_count_103 : decode cX9_count 103 = .ok (.getfield 361, 3) := by decide +kernel
theorem dX9_count_106 : decode cX9_count 106 = .ok (.ireturn, 1) := by decide +kernel
theorem dX9_count_107 : decode cX9_count 107 = .ok (.aload_n 0, 1) := by decide +kernel
theorem dX9_count_108 : decode cX9_count 108 = .ok (.getfield 65, 3) := by decide +kernel
theorem dX9_count_111 : decode cX9_count 111 = .ok (.getfield 168, 3) := by decide +kernel
theorem dX9_count_114 : decode cX9_count 114 = .ok (.getfield 364, 3) := by decide +kernel
theorem dX9_count_117 : decode cX9_count 117 = .ok (.ireturn, 1) := by decide +kernel
theorem dX9_count_118 : decode cX9_count 118 = .ok (.aload_n 0, 1) := by decide +kernel
theorem dX9_count_119 : decode cX9_count 119 = .ok (.getfield 10, 3) := by decide +kernel
theorem dX9_count_122 : decode cX9_count 122 = .ok (.getfield 100, 3) := by decide +kernel
theorem dX9_count_125 : decode cX9_count 125 = .ok (.ireturn, 1) := by decide +kernel
theorem dX9_count_126 : decode cX9_count 126 = .ok (.iconst (-1), 1) := by decide +kernel
theorem dX9_count_127 : decode cX9_count 127 = .ok (.ireturn, 1) := by decide +kernel
theorem dX9_days_0 : decode cX9_days 0 = .ok (.iload_n 1, 1) := by decide +kernel
theorem dX9_days_1 : decode cX9_days 1 = .ok (.iconst 1, 1) := by decide +kernel
theorem dX9_days_2 : decode cX9_days 2 = .ok (.if_icmp .lt 9, 3) := by decide +kernel
theorem dX9_days_5 : decode cX9_days 5 = .ok (.iload_n 1, 1) := by decide +kernel
theorem dX9_days_6 : decode cX9_days 6 = .ok (.bipush 60, 2) := by decide +kernel
theorem dX9_days_8 : decode cX9_days 8 = .ok (.if_icmp .le 5, 3) := by decide +kernel
theorem dX9_days_11 : decode cX9_days 11 = .ok (.iconst (-1), 1) := by decide +kernel
theorem dX9_days_12 : decode cX9_days 12 = .ok (.ireturn, 1) := by decide +kernel
theorem dX9_days_13 : decode cX9_days 13 = .ok (.aload_n 0, 1) := by decide +kernel
theorem dX9_days_14 : decode cX9_days 14 = .ok (.getfield 75, 3) := by decide +kernel
theorem dX9_days_17 : decode cX9_days 17 = .ok (.aload_n 0, 1) := by decide +kernel
theorem dX9_days_18 : decode cX9_days 18 = .ok (.getfield 65, 3) := by decide +kernel
theorem dX9_days_21 : decode cX9_days 21 = .ok (.invokevirtual 212, 3) := by decide +kernel
theorem dX9_days_24 : decode cX9_days 24 = .ok (.aload_n 0, 1) := by decide +kernel
theorem dX9_days_25 : decode cX9_days 25 = .ok (.aload_n 0, 1) := by decide +kernel
theorem dX9_days_26 : decode cX9_days 26 = .ok (.getfield 65, 3) := by decide +kernel
theorem dX9_days_29 : decode cX9_days 29 = .ok (.iload_n 1, 1) := by decide +kernel
theorem dX9_days_30 : decode cX9_days 30 = .ok (.invokevirtual 242, 3) := by decide +kernel
theorem dX9_days_33 : decode cX9_days 33 = .ok (.invokevirtual 245, 3) := by decide +kernel
theorem dX9_days_36 : decode cX9_days 36 = .ok (.ireturn, 1) := by decide +kernel
theorem dX9_drawn_0 : decode cX9_drawn 0 = .ok (.iload_n 1, 1) := by decide +kernel
theorem dX9_drawn_1 : decode cX9_drawn 1 = .ok (.iconst 1, 1) := by decide +kernel
theorem dX9_drawn_2 : decode cX9_drawn 2 = .ok (.if_icmp .lt 24, 3) := by decide +kernel
theorem dX9_drawn_5 : decode cX9_drawn 5 = .ok (.iload_n 1, 1) := by decide +kernel
theorem dX9_drawn_6 : decode cX9_drawn 6 = .ok (.bipush 60, 2) := by decide +kernel
theorem dX9_drawn_8 : decode cX9_drawn 8 = .ok (.if_icmp .gt 18, 3) := by decide +kernel
theorem dX9_drawn_11 : decode cX9_drawn 11 = .ok (.aload_n 0, 1) := by decide +kernel
theorem dX9_drawn_12 : decode cX9_drawn 12 = .ok (.getfield 65, 3) := by decide +kernel
theorem dX9_drawn_15 : decode cX9_drawn 15 = .ok (.getfield 168, 3) := by decide +kernel
theorem dX9_drawn_18 : decode cX9_drawn 18 = .ok (.getfield 297, 3) := by decide +kernel
theorem dX9_drawn_21 : decode cX9_drawn 21 = .ok (.iconst 3, 1) := by decide +kernel
theorem dX9_drawn_22 : decode cX9_drawn 22 = .ok (.iaload, 1) := by decide +kernel
theorem dX9_drawn_23 : decode cX9_drawn 23 = .ok (.ifCond .ne 5, 3) := by decide +kernel
theorem dX9_drawn_26 : decode cX9_drawn 26 = .ok (.iconst (-1), 1) := by decide +kernel
theorem dX9_drawn_27 : decode cX9_drawn 27 = .ok (.ireturn, 1) := by decide +kernel
theorem dX9_drawn_28 : decode cX9_drawn 28 = .ok (.aload_n 0, 1) := by decide +kernel
theorem dX9_drawn_29 : decode cX9_drawn 29 = .ok (.getfield 75, 3) := by decide +kernel
theorem dX9_drawn_32 : decode cX9_drawn 32 = .ok (.aload_n 0, 1) := by decide +kernel
theorem dX9_drawn_33 : decode cX9_drawn 33 = .ok (.getfield 65, 3) := by decide +kernel
theorem dX9_drawn_36 : decode cX9_drawn 36 = .ok (.invokevirtual 212, 3) := by decide +kernel
theorem dX9_drawn_39 : decode cX9_drawn 39 = .ok (.aload_n 0, 1) := by decide +kernel
theorem dX9_drawn_40 : decode cX9_drawn 40 = .ok (.aload_n 0, 1) := by decide +kernel
theorem dX9_drawn_41 : decode cX9_drawn 41 = .ok (.getfield 65, 3) := by decide +kernel
theorem dX9_drawn_44 : decode cX9_drawn 44 = .ok (.iload_n 1, 1) := by decide +kernel
theorem dX9_drawn_45 : decode cX9_drawn 45 = .ok (.iload_n 2, 1) := by decide +kernel
theorem dX9_drawn_46 : decode cX9_drawn 46 = .ok (.invokevirtual 328, 3) := by decide +kernel
theorem dX9_drawn_49 : decode cX9_drawn 49 = .ok (.invokevirtual 245, 3) := by decide +kernel
theorem dX9_drawn_52 : decode cX9_drawn 52 = .ok (.ireturn, 1) := by decide +kernel
theorem dX9_end_0 : decode cX9_end 0 = .ok (.iload_n 1, 1) := by decide +kernel
theorem dX9_end_1 : decode cX9_end 1 = .ok (.ifCond .lt 14, 3) := by decide +kernel
theorem dX9_end_4 : decode cX9_end 4 = .ok (.iload_n 1, 1) := by decide +kernel
theorem dX9_end_5 : decode cX9_end 5 = .ok (.aload_n 0, 1) := by decide +kernel
theorem dX9_end_6 : decode cX9_end 6 = .ok (.getfield 10, 3) := by decide +kernel
theorem dX9_end_9 : decode cX9_end 9 = .ok (.getfield 100, 3) := by decide +kernel
theorem dX9_end_12 : decode cX9_end 12 = .ok (.if_icmp .le 5, 3) := by decide +kernel
theorem dX9_end_15 : decode cX9_end 15 = .ok (.iconst 0, 1) := by decide +kernel
theorem dX9_end_16 : decode cX9_end 16 = .ok (.ireturn, 1) := by decide +kernel
theorem dX9_end_17 : decode cX9_end 17 = .ok (.aload_n 0, 1) := by decide +kernel
theorem dX9_end_18 : decode cX9_end 18 = .ok (.getfield 10, 3) := by decide +kernel
theorem dX9_end_21 : decode cX9_end 21 = .ok (.iload_n 1, 1) := by decide +kernel
theorem dX9_end_22 : decode cX9_end 22 = .ok (.putfield 100, 3) := by decide +kernel
theorem dX9_end_25 : decode cX9_end 25 = .ok (.iconst 1, 1) := by decide +kernel
theorem dX9_end_26 : decode cX9_end 26 = .ok (.ireturn, 1) := by decide +kernel
theorem dX9_fault_0 : decode cX9_fault 0 = .ok (.aload_n 0, 1) := by decide +kernel
theorem dX9_fault_1 : decode cX9_fault 1 = .ok (.getfield 44, 3) := by decide +kernel
theorem dX9_fault_4 : decode cX9_fault 4 = .ok (.ireturn, 1) := by decide +kernel
theorem dX9_feed_0 : decode cX9_feed 0 = .ok (.aload_n 0, 1) := by decide +kernel
theorem dX9_feed_1 : decode cX9_feed 1 = .ok (.getfield 10, 3) := by decide +kernel
theorem dX9_feed_4 : decode cX9_feed 4 = .ok (.invokevirtual 92, 3) := by decide +kernel
theorem dX9_feed_7 : decode cX9_feed 7 = .ok (.ifCond .ne 5, 3) := by decide +kernel
theorem dX9_feed_10 : decode cX9_feed 10 = .ok (.iconst (-1), 1) := by decide +kernel
theorem dX9_feed_11 : decode cX9_feed 11 = .ok (.ireturn, 1) := by decide +kernel
theorem dX9_feed_12 : decode cX9_feed 12 = .ok (.aload_n 0, 1) := by decide +kernel
theorem dX9_feed_13 : decode cX9_feed 13 = .ok (.getfield 10, 3) := by decide +kernel
theorem dX9_feed_16 : decode cX9_feed 16 = .ok (.iload_n 1, 1) := by decide +kernel
theorem dX9_feed_17 : decode cX9_feed 17 = .ok (.invokevirtual 96, 3) := by decide +kernel
theorem dX9_feed_20 : decode cX9_feed 20 = .ok (.aload_n 0, 1) := by decide +kernel
theorem dX9_feed_21 : decode cX9_feed 21 = .ok (.getfield 10, 3) := by decide +kernel
theorem dX9_feed_24 : decode cX9_feed 24 = .ok (.iload_n 2, 1) := by decide +kernel
theorem dX9_feed_25 : decode cX9_feed 25 = .ok (.invokevirtual 96, 3) := by decide +kernel
theorem dX9_feed_28 : decode cX9_feed 28 = .ok (.aload_n 0, 1) := by decide +kernel
theorem dX9_feed_29 : decode cX9_feed 29 = .ok (.getfield 10, 3) := by decide +kernel
theorem dX9_feed_32 : decode cX9_feed 32 = .ok (.iload_n 3, 1) := by decide +kernel
theorem dX9_feed_33 : decode cX9_feed 33 = .ok (.invokevirtual 96, 3) := by decide +kernel
theorem dX9_feed_36 : decode cX9_feed 36 = .ok (.aload_n 0, 1) := by decide +kernel
theorem dX9_feed_37 : decode cX9_feed 37 = .ok (.getfield 10, 3) := by decide +kernel
theorem dX9_feed_40 : decode cX9_feed 40 = .ok (.iload 4, 2) := by decide +kernel
theorem dX9_feed_42 : decode cX9_feed 42 = .ok (.invokevirtual 96, 3) := by decide +kernel
theorem dX9_feed_45 : decode cX9_feed 45 = .ok (.aload_n 0, 1) := by decide +kernel
theorem dX9_feed_46 : decode cX9_feed 46 = .ok (.getfield 10, 3) := by decide +kernel
theorem dX9_feed_49 : decode cX9_feed 49 = .ok (.iload 5, 2) := by decide +kernel
theorem dX9_feed_51 : decode cX9_feed 51 = .ok (.invokevirtual 96, 3) := by decide +kernel
theorem dX9_feed_54 : decode cX9_feed 54 = .ok (.aload_n 0, 1) := by decide +kernel
theorem dX9_feed_55 : decode cX9_feed 55 = .ok (.getfield 10, 3) := by decide +kernel
theorem dX9_feed_58 : decode cX9_feed 58 = .ok (.getfield 100, 3) := by decide +kernel
theorem dX9_feed_61 : decode cX9_feed 61 = .ok (.ireturn, 1) := by decide +kernel
theorem dX9_fewestSitters_0 : decode cX9_fewestSitters 0 = .ok (.aload_n 0, 1) := by decide +kernel
theorem dX9_fewestSitters_1 : decode cX9_fewestSitters 1 = .ok (.getfield 69, 3) := by decide +kernel
theorem dX9_fewestSitters_4 : decode cX9_fewestSitters 4 = .ok (.aload_n 0, 1) := by decide +kernel
theorem dX9_fewestSitters_5 : decode cX9_fewestSitters 5 = .ok (.getfield 65, 3) := by decide +kernel
theorem dX9_fewestSitters_8 : decode cX9_fewestSitters 8 = .ok (.invokevirtual 113, 3) := by decide +kernel
theorem dX9_fewestSitters_11 : decode cX9_fewestSitters 11 = .ok (.iconst (-1), 1) := by decide +kernel
theorem dX9_fewestSitters_12 : decode cX9_fewestSitters 12 = .ok (.istore 4, 2) := by decide +kernel
theorem dX9_fewestSitters_14 : decode cX9_fewestSitters 14 = .ok (.iconst 1, 1) := by decide +kernel
theorem dX9_fewestSitters_15 : decode cX9_fewestSitters 15 = .ok (.aload_n 0, 1) := by decide +kernel
theorem dX9_fewestSitters_16 : decode cX9_fewestSitters 16 = .ok (.getfield 65, 3) := by decide +kernel
theorem dX9_fewestSitters_19 : decode cX9_fewestSitters 19 = .ok (.getfield 168, 3) := by decide +kernel
theorem dX9_fewestSitters_22 : decode cX9_fewestSitters 22 = .ok (.getfield 297, 3) := by decide +kernel
theorem dX9_fewestSitters_25 : decode cX9_fewestSitters 25 = .ok (.iconst 3, 1) := by decide +kernel
theorem dX9_fewestSitters_26 : decode cX9_fewestSitters 26 = .ok (.iaload, 1) := by decide +kernel
theorem dX9_fewestSitters_27 : decode cX9_fewestSitters 27 = .ok (.ishl, 1) := by decide +kernel
theorem dX9_fewestSitters_28 : decode cX9_fewestSitters 28 = .ok (.istore 5, 2) := by decide +kernel
theorem dX9_fewestSitters_30 : decode cX9_fewestSitters 30 = .ok (.iconst 0, 1) := by decide +kernel
theorem dX9_fewestSitters_31 : decode cX9_fewestSitters 31 = .ok (.istore 6, 2) := by decide +kernel
theorem dX9_fewestSitters_33 : decode cX9_fewestSitters 33 = .ok (.iload 6, 2) := by decide +kernel
theorem dX9_fewestSitters_35 : decode cX9_fewestSitters 35 = .ok (.iload 5, 2) := by decide +kernel
theorem dX9_fewestSitters_37 : decode cX9_fewestSitters 37 = .ok (.if_icmp .ge 71, 3) := by decide +kernel
theorem dX9_fewestSitters_40 : decode cX9_fewestSitters 40 = .ok (.iload 4, 2) := by decide +kernel
theorem dX9_fewestSitters_42 : decode cX9_fewestSitters 42 = .ok (.iconst (-1), 1) := by decide +kernel
theorem dX9_fewestSitters_43 : decode cX9_fewestSitters 43 = .ok (.if_icmp .eq 19, 3) := by decide +kernel
theorem dX9_fewestSitters_46 : decode cX9_fewestSitters 46 = .ok (.iload 6, 2) := by decide +kernel
theorem dX9_fewestSitters_48 : decode cX9_fewestSitters 48 = .ok (.invokestatic 274, 3) := by decide +kernel
theorem dX9_fewestSitters_51 : decode cX9_fewestSitters 51 = .ok (.iload 4, 2) := by decide +kernel
theorem dX9_fewestSitters_53 : decode cX9_fewestSitters 53 = .ok (.invokestatic 274, 3) := by decide +kernel
theorem dX9_fewestSitters_56 : decode cX9_fewestSitters 56 = .ok (.if_icmp .lt 6, 3) := by decide +kernel
theorem dX9_fewestSitters_59 : decode cX9_fewestSitters 59 = .ok (.goto 43, 3) := by decide +kernel
theorem dX9_fewestSitters_62 : decode cX9_fewestSitters 62 = .ok (.aload_n 0, 1) := by decide +kernel
theorem dX9_fewestSitters_63 : decode cX9_fewestSitters 63 = .ok (.getfield 69, 3) := by decide +kernel
theorem dX9_fewestSitters_66 : decode cX9_fewestSitters 66 = .ok (.iload 6, 2) := by decide +kernel
theorem dX9_fewestSitters_68 : decode cX9_fewestSitters 68 = .ok (.iload_n 1, 1) := by decide +kernel
theorem dX9_fewestSitters_69 : decode cX9_fewestSitters 69 = .ok (.aload_n 0, 1) := by decide +kernel
theorem dX9_fewestSitters_70 : decode cX9_fewestSitters 70 = .ok (.getfield 65, 3) := by decide +kernel
theorem dX9_fewestSitters_73 : decode cX9_fewestSitters 73 = .ok (.invokevirtual 370, 3) := by decide +kernel
theorem dX9_fewestSitters_76 : decode cX9_fewestSitters 76 = .ok (.aload_n 0, 1) := by decide +kernel
theorem dX9_fewestSitters_77 : decode cX9_fewestSitters 77 = .ok (.getfield 69, 3) := by decide +kernel
theorem dX9_fewestSitters_80 : decode cX9_fewestSitters 80 = .ok (.iload_n 1, 1) := by decide +kernel
theorem dX9_fewestSitters_81 : decode cX9_fewestSitters 81 = .ok (.invokevirtual 260, 3) := by decide +kernel
theorem dX9_fewestSitters_84 : decode cX9_fewestSitters 84 = .ok (.pop, 1) := by decide +kernel
theorem dX9_fewestSitters_85 : decode cX9_fewestSitters 85 = .ok (.aload_n 0, 1) := by decide +kernel
theorem dX9_fewestSitters_86 : decode cX9_fewestSitters 86 = .ok (.getfield 69, 3) := by decide +kernel
theorem dX9_fewestSitters_89 : decode cX9_fewestSitters 89 = .ok (.iload_n 1, 1) := by decide +kernel
theorem dX9_fewestSitters_90 : decode cX9_fewestSitters 90 = .ok (.iload_n 3, 1) := by decide +kernel
theorem dX9_fewestSitters_91 : decode cX9_fewestSitters 91 = .ok (.invokevirtual 264, 3) := by decide +kernel
theorem dX9_fewestSitters_94 : decode cX9_fewestSitters 94 = .ok (.iload_n 2, 1) := by decide +kernel
theorem dX9_fewestSitters_95 : decode cX9_fewestSitters 95 = .ok (.if_icmp .ne 7, 3) := by decide +kernel
theorem dX9_fewestSitters_98 : decode cX9_fewestSitters 98 = .ok (.iload 6, 2) := by decide +kernel
theorem dX9_fewestSitters_100 : decode cX9_fewestSitters 100 = .ok (.istore 4, 2) := by decide +kernel
theorem dX9_fewestSitters_102 : decode cX9_fewestSitters 102 = .ok (.iinc 6 1, 3) := by decide +kernel
theorem dX9_fewestSitters_105 : decode cX9_fewestSitters 105 = .ok (.goto (-72), 3) := by decide +kernel
theorem dX9_fewestSitters_108 : decode cX9_fewestSitters 108 = .ok (.iload 4, 2) := by decide +kernel
theorem dX9_fewestSitters_110 : decode cX9_fewestSitters 110 = .ok (.ireturn, 1) := by decide +kernel
theorem dX9_greatest_0 : decode cX9_greatest 0 = .ok (.iconst (-1), 1) := by decide +kernel
theorem dX9_greatest_1 : decode cX9_greatest 1 = .ok (.istore_n 1, 1) := by decide +kernel
theorem dX9_greatest_2 : decode cX9_greatest 2 = .ok (.iconst 0, 1) := by decide +kernel
theorem dX9_greatest_3 : decode cX9_greatest 3 = .ok (.istore_n 2, 1) := by decide +kernel
theorem dX9_greatest_4 : decode cX9_greatest 4 = .ok (.iload_n 2, 1) := by decide +kernel
theorem dX9_greatest_5 : decode cX9_greatest 5 = .ok (.aload_n 0, 1) := by decide +kernel
theorem dX9_greatest_6 : decode cX9_greatest 6 = .ok (.getfield 65, 3) := by decide +kernel
theorem dX9_greatest_9 : decode cX9_greatest 9 = .ok (.getfield 168, 3) := by decide +kernel
theorem dX9_greatest_12 : decode cX9_greatest 12 = .ok (.getfield 297, 3) := by decide +kernel
theorem dX9_greatest_15 : decode cX9_greatest 15 = .ok (.iconst 2, 1) := by decide +kernel
theorem dX9_greatest_16 : decode cX9_greatest 16 = .ok (.iaload, 1) := by decide +kernel
theorem dX9_greatest_17 : decode cX9_greatest 17 = .ok (.if_icmp .ge 46, 3) := by decide +kernel
theorem dX9_greatest_20 : decode cX9_greatest 20 = .ok (.aload_n 0, 1) := by decide +kernel
theorem dX9_greatest_21 : decode cX9_greatest 21 = .ok (.getfield 65, 3) := by decide +kernel
theorem dX9_greatest_24 : decode cX9_greatest 24 = .ok (.iload_n 2, 1) := by decide +kernel
theorem dX9_greatest_25 : decode cX9_greatest 25 = .ok (.invokevirtual 267, 3) := by decide +kernel
theorem dX9_greatest_28 : decode cX9_greatest 28 = .ok (.ifCond .ne 29, 3) := by decide +kernel
theorem dX9_greatest_31 : decode cX9_greatest 31 = .ok (.iload_n 1, 1) := by decide +kernel
theorem dX9_greatest_32 : decode cX9_greatest 32 = .ok (.iconst (-1), 1) := by decide +kernel
theorem dX9_greatest_33 : decode cX9_greatest 33 = .ok (.if_icmp .eq 22, 3) := by decide +kernel
theorem dX9_greatest_36 : decode cX9_greatest 36 = .ok (.aload_n 0, 1) := by decide +kernel
theorem dX9_greatest_37 : decode cX9_greatest 37 = .ok (.getfield 65, 3) := by decide +kernel
theorem dX9_greatest_40 : decode cX9_greatest 40 = .ok (.iload_n 2, 1) := by decide +kernel
theorem dX9_greatest_41 : decode cX9_greatest 41 = .ok (.invokevirtual 146, 3) := by decide +kernel
theorem dX9_greatest_44 : decode cX9_greatest 44 = .ok (.aload_n 0, 1) := by decide +kernel
theorem dX9_greatest_45 : decode cX9_greatest 45 = .ok (.getfield 65, 3) := by decide +kernel
theorem dX9_greatest_48 : decode cX9_greatest 48 = .ok (.iload_n 1, 1) := by decide +kernel
theorem dX9_greatest_49 : decode cX9_greatest 49 = .ok (.invokevirtual 146, 3) := by decide +kernel
theorem dX9_greatest_52 : decode cX9_greatest 52 = .ok (.if_icmp .le 5, 3) := by decide +kernel
theorem dX9_greatest_55 : decode cX9_greatest 55 = .ok (.iload_n 2, 1) := by decide +kernel
theorem dX9_greatest_56 : decode cX9_greatest 56 = .ok (.istore_n 1, 1) := by decide +kernel
theorem dX9_greatest_57 : decode cX9_greatest 57 = .ok (.iinc 2 1, 3) := by decide +kernel
theorem dX9_greatest_60 : decode cX9_greatest 60 = .ok (.goto (-56), 3) := by decide +kernel
theorem dX9_greatest_63 : decode cX9_greatest 63 = .ok (.iload_n 1, 1) := by decide +kernel
theorem dX9_greatest_64 : decode cX9_greatest 64 = .ok (.ireturn, 1) := by decide +kernel
theorem dX9_guess_0 : decode cX9_guess 0 = .ok (.aload_n 0, 1) := by decide +kernel
theorem dX9_guess_1 : decode cX9_guess 1 = .ok (.iconst 3, 1) := by decide +kernel
theorem dX9_guess_2 : decode cX9_guess 2 = .ok (.iload_n 1, 1) := by decide +kernel
theorem dX9_guess_3 : decode cX9_guess 3 = .ok (.invokevirtual 124, 3) := by decide +kernel
theorem dX9_guess_6 : decode cX9_guess 6 = .ok (.ifCond .eq 12, 3) := by decide +kernel
theorem dX9_guess_9 : decode cX9_guess 9 = .ok (.aload_n 0, 1) := by decide +kernel
theorem dX9_guess_10 : decode cX9_guess 10 = .ok (.iconst 0, 1) := by decide +kernel
theorem dX9_guess_11 : decode cX9_guess 11 = .ok (.iload_n 2, 1) := by decide +kernel
theorem dX9_guess_12 : decode cX9_guess 12 = .ok (.invokevirtual 124, 3) := by decide +kernel
theorem dX9_guess_15 : decode cX9_guess 15 = .ok (.ifCond .ne 5, 3) := by decide +kernel
theorem dX9_guess_18 : decode cX9_guess 18 = .ok (.iconst (-1), 1) := by decide +kernel
theorem dX9_guess_19 : decode cX9_guess 19 = .ok (.ireturn, 1) := by decide +kernel
theorem dX9_guess_20 : decode cX9_guess 20 = .ok (.aload_n 0, 1) := by decide +kernel
theorem dX9_guess_21 : decode cX9_guess 21 = .ok (.getfield 65, 3) := by decide +kernel
theorem dX9_guess_24 : decode cX9_guess 24 = .ok (.iload_n 1, 1) := by decide +kernel
theorem dX9_guess_25 : decode cX9_guess 25 = .ok (.invokevirtual 227, 3) := by decide +kernel
theorem dX9_guess_28 : decode cX9_guess 28 = .ok (.istore_n 3, 1) := by decide +kernel
theorem dX9_guess_29 : decode cX9_guess 29 = .ok (.iload_n 3, 1) := by decide +kernel
theorem dX9_guess_30 : decode cX9_guess 30 = .ok (.ifCond .eq 7, 3) := by decide +kernel
theorem dX9_guess_33 : decode cX9_guess 33 = .ok (.iconst (-1), 1) := by decide +kernel
theorem dX9_guess_34 : decode cX9_guess 34 = .ok (.iload_n 3, 1) := by decide +kernel
theorem dX9_guess_35 : decode cX9_guess 35 = .ok (.isub, 1) := by decide +kernel
theorem dX9_guess_36 : decode cX9_guess 36 = .ok (.ireturn, 1) := by decide +kernel
theorem dX9_guess_37 : decode cX9_guess 37 = .ok (.aload_n 0, 1) := by decide +kernel
theorem dX9_guess_38 : decode cX9_guess 38 = .ok (.getfield 75, 3) := by decide +kernel
theorem dX9_guess_41 : decode cX9_guess 41 = .ok (.aload_n 0, 1) := by decide +kernel
theorem dX9_guess_42 : decode cX9_guess 42 = .ok (.getfield 65, 3) := by decide +kernel
theorem dX9_guess_45 : decode cX9_guess 45 = .ok (.invokevirtual 212, 3) := by decide +kernel
theorem dX9_guess_48 : decode cX9_guess 48 = .ok (.aload_n 0, 1) := by decide +kernel
theorem dX9_guess_49 : decode cX9_guess 49 = .ok (.getfield 75, 3) := by decide +kernel
theorem dX9_guess_52 : decode cX9_guess 52 = .ok (.invokevirtual 230, 3) := by decide +kernel
theorem dX9_guess_55 : decode cX9_guess 55 = .ok (.aload_n 0, 1) := by decide +kernel
theorem dX9_guess_56 : decode cX9_guess 56 = .ok (.getfield 65, 3) := by decide +kernel
theorem dX9_guess_59 : decode cX9_guess 59 = .ok (.iload_n 1, 1) := by decide +kernel
theorem dX9_guess_60 : decode cX9_guess 60 = .ok (.iload_n 2, 1) := by decide +kernel
theorem dX9_guess_61 : decode cX9_guess 61 = .ok (.invokevirtual 233, 3) := by decide +kernel
theorem dX9_guess_64 : decode cX9_guess 64 = .ok (.ifCond .eq 7, 3) := by decide +kernel
theorem dX9_guess_67 : decode cX9_guess 67 = .ok (.iconst 1, 1) := by decide +kernel
theorem dX9_guess_68 : decode cX9_guess 68 = .ok (.goto 4, 3) := by decide +kernel
theorem dX9_guess_71 : decode cX9_guess 71 = .ok (.iconst 0, 1) := by decide +kernel
theorem dX9_guess_72 : decode cX9_guess 72 = .ok (.ireturn, 1) := by decide +kernel
theorem dX9_image_0 : decode cX9_image 0 = .ok (.iload_n 1, 1) := by decide +kernel
theorem dX9_image_1 : decode cX9_image 1 = .ok (.ifCond .lt 12, 3) := by decide +kernel
theorem dX9_image_4 : decode cX9_image 4 = .ok (.iload_n 1, 1) := by decide +kernel
theorem dX9_image_5 : decode cX9_image 5 = .ok (.aload_n 0, 1) := by decide +kernel
theorem dX9_image_6 : decode cX9_image 6 = .ok (.getfield 82, 3) := by decide +kernel
theorem dX9_image_9 : decode cX9_image 9 = .ok (.arraylength, 1) := by decide +kernel
theorem dX9_image_10 : decode cX9_image 10 = .ok (.if_icmp .lt 5, 3) := by decide +kernel
theorem dX9_image_13 : decode cX9_image 13 = .ok (.iconst 0, 1) := by decide +kernel
theorem dX9_image_14 : decode cX9_image 14 = .ok (.ireturn, 1) := by decide +kernel
theorem dX9_image_15 : decode cX9_image 15 = .ok (.aload_n 0, 1) := by decide +kernel
theorem dX9_image_16 : decode cX9_image 16 = .ok (.getfield 82, 3) := by decide +kernel
theorem dX9_image_19 : decode cX9_image 19 = .ok (.iload_n 1, 1) := by decide +kernel
theorem dX9_image_20 : decode cX9_image 20 = .ok (.aaload, 1) := by decide +kernel
theorem dX9_image_21 : decode cX9_image 21 = .ok (.aload_n 0, 1) := by decide +kernel
theorem dX9_image_22 : decode cX9_image 22 = .ok (.getfield 65, 3) := by decide +kernel
theorem dX9_image_25 : decode cX9_image 25 = .ok (.aload_n 0, 1) := by decide +kernel
theorem dX9_image_26 : decode cX9_image 26 = .ok (.getfield 117, 3) := by decide +kernel
theorem dX9_image_29 : decode cX9_image 29 = .ok (.invokevirtual 351, 3) := by decide +kernel
theorem dX9_image_32 : decode cX9_image 32 = .ok (.iconst 1, 1) := by decide +kernel
theorem dX9_image_33 : decode cX9_image 33 = .ok (.ireturn, 1) := by decide +kernel
theorem dX9_isOf_0 : decode cX9_isOf 0 = .ok (.iload_n 2, 1) := by decide +kernel
theorem dX9_isOf_1 : decode cX9_isOf 1 = .ok (.ifCond .lt 23, 3) := by decide +kernel
theorem dX9_isOf_4 : decode cX9_isOf 4 = .ok (.iload_n 2, 1) := by decide +kernel
theorem dX9_isOf_5 : decode cX9_isOf 5 = .ok (.aload_n 0, 1) := by decide +kernel
theorem dX9_isOf_6 : decode cX9_isOf 6 = .ok (.getfield 65, 3) := by decide +kernel
theorem dX9_isOf_9 : decode cX9_isOf 9 = .ok (.getfield 168, 3) := by decide +kernel
theorem dX9_isOf_12 : decode cX9_isOf 12 = .ok (.getfield 297, 3) := by decide +kernel
theorem dX9_isOf_15 : decode cX9_isOf 15 = .ok (.iload_n 1, 1) := by decide +kernel
theorem dX9_isOf_16 : decode cX9_isOf 16 = .ok (.iaload, 1) := by decide +kernel
theorem dX9_isOf_17 : decode cX9_isOf 17 = .ok (.if_icmp .ge 7, 3) := by decide +kernel
theorem dX9_isOf_20 : decode cX9_isOf 20 = .ok (.iconst 1, 1) := by decide +kernel
theorem dX9_isOf_21 : decode cX9_isOf 21 = .ok (.goto 4, 3) := by decide +kernel
theorem dX9_isOf_24 : decode cX9_isOf 24 = .ok (.iconst 0, 1) := by decide +kernel
theorem dX9_isOf_25 : decode cX9_isOf 25 = .ok (.ireturn, 1) := by decide +kernel
theorem dX9_keptIfDone_0 : decode cX9_keptIfDone 0 = .ok (.iload_n 1, 1) := by decide +kernel
theorem dX9_keptIfDone_1 : decode cX9_keptIfDone 1 = .ok (.ifCond .ne 10, 3) := by decide +kernel
theorem dX9_keptIfDone_4 : decode cX9_keptIfDone 4 = .ok (.aload_n 0, 1) := by decide +kernel
theorem dX9_keptIfDone_5 : decode cX9_keptIfDone 5 = .ok (.getfield 75, 3) := by decide +kernel
theorem dX9_keptIfDone_8 : decode cX9_keptIfDone 8 = .ok (.invokevirtual 230, 3) := by decide +kernel
theorem dX9_keptIfDone_11 : decode cX9_keptIfDone 11 = .ok (.iload_n 1, 1) := by decide +kernel
theorem dX9_keptIfDone_12 : decode cX9_keptIfDone 12 = .ok (.ireturn, 1) := by decide +kernel
theorem dX9_keptIfSome_0 : decode cX9_keptIfSome 0 = .ok (.iload_n 1, 1) := by decide +kernel
theorem dX9_keptIfSome_1 : decode cX9_keptIfSome 1 = .ok (.ifCond .le 10, 3) := by decide +kernel
theorem dX9_keptIfSome_4 : decode cX9_keptIfSome 4 = .ok (.aload_n 0, 1) := by decide +kernel
theorem dX9_keptIfSome_5 : decode cX9_keptIfSome 5 = .ok (.getfield 75, 3) := by decide +kernel
theorem dX9_keptIfSome_8 : decode cX9_keptIfSome 8 = .ok (.invokevirtual 230, 3) := by decide +kernel
theorem dX9_keptIfSome_11 : decode cX9_keptIfSome 11 = .ok (.iload_n 1, 1) := by decide +kernel
theorem dX9_keptIfSome_12 : decode cX9_keptIfSome 12 = .ok (.ireturn, 1) := by decide +kernel
theorem dX9_let_0 : decode cX9_let 0 = .ok (.aload_n 0, 1) := by decide +kernel
theorem dX9_let_1 : decode cX9_let 1 = .ok (.iconst 2, 1) := by decide +kernel
theorem dX9_let_2 : decode cX9_let 2 = .ok (.iload_n 1, 1) := by decide +kernel
theorem dX9_let_3 : decode cX9_let 3 = .ok (.invokevirtual 124, 3) := by decide +kernel
theorem dX9_let_6 : decode cX9_let 6 = .ok (.ifCond .ne 5, 3) := by decide +kernel
theorem dX9_let_9 : decode cX9_let 9 = .ok (.iconst (-1), 1) := by decide +kernel
theorem dX9_let_10 : decode cX9_let 10 = .ok (.ireturn, 1) := by decide +kernel
theorem dX9_let_11 : decode cX9_let 11 = .ok (.aload_n 0, 1) := by decide +kernel
theorem dX9_let_12 : decode cX9_let 12 = .ok (.getfield 69, 3) := by decide +kernel
theorem dX9_let_15 : decode cX9_let 15 = .ok (.aload_n 0, 1) := by decide +kernel
theorem dX9_let_16 : decode cX9_let 16 = .ok (.getfield 65, 3) := by decide +kernel
theorem dX9_let_19 : decode cX9_let 19 = .ok (.invokevirtual 113, 3) := by decide +kernel
theorem dX9_let_22 : decode cX9_let 22 = .ok (.iconst 0, 1) := by decide +kernel
theorem dX9_let_23 : decode cX9_let 23 = .ok (.istore_n 2, 1) := by decide +kernel
theorem dX9_let_24 : decode cX9_let 24 = .ok (.iload_n 2, 1) := by decide +kernel
theorem dX9_let_25 : decode cX9_let 25 = .ok (.sipush 594, 3) := by decide +kernel
theorem dX9_let_28 : decode cX9_let 28 = .ok (.if_icmp .ge 37, 3) := by decide +kernel
theorem dX9_let_31 : decode cX9_let 31 = .ok (.aload_n 0, 1) := by decide +kernel
theorem dX9_let_32 : decode cX9_let 32 = .ok (.getfield 69, 3) := by decide +kernel
theorem dX9_let_35 : decode cX9_let 35 = .ok (.iload_n 1, 1) := by decide +kernel
theorem dX9_let_36 : decode cX9_let 36 = .ok (.invokevirtual 139, 3) := by decide +kernel
theorem dX9_let_39 : decode cX9_let 39 = .ok (.iconst (-1), 1) := by decide +kernel
theorem dX9_let_40 : decode cX9_let 40 = .ok (.if_icmp .eq 25, 3) := by decide +kernel
theorem dX9_let_43 : decode cX9_let 43 = .ok (.aload_n 0, 1) := by decide +kernel
theorem dX9_let_44 : decode cX9_let 44 = .ok (.getfield 69, 3) := by decide +kernel
theorem dX9_let_47 : decode cX9_let 47 = .ok (.iload_n 1, 1) := by decide +kernel
theorem dX9_let_48 : decode cX9_let 48 = .ok (.aload_n 0, 1) := by decide +kernel
theorem dX9_let_49 : decode cX9_let 49 = .ok (.getfield 69, 3) := by decide +kernel
theorem dX9_let_52 : decode cX9_let 52 = .ok (.iload_n 1, 1) := by decide +kernel
theorem dX9_let_53 : decode cX9_let 53 = .ok (.invokevirtual 139, 3) := by decide +kernel
theorem dX9_let_56 : decode cX9_let 56 = .ok (.invokevirtual 286, 3) := by decide +kernel
theorem dX9_let_59 : decode cX9_let 59 = .ok (.iinc 2 1, 3) := by decide +kernel
theorem dX9_let_62 : decode cX9_let 62 = .ok (.goto (-38), 3) := by decide +kernel
theorem dX9_let_65 : decode cX9_let 65 = .ok (.iload_n 2, 1) := by decide +kernel
theorem dX9_let_66 : decode cX9_let 66 = .ok (.ireturn, 1) := by decide +kernel
theorem dX9_much_0 : decode cX9_much 0 = .ok (.aload_n 0, 1) := by decide +kernel
theorem dX9_much_1 : decode cX9_much 1 = .ok (.iconst 2, 1) := by decide +kernel
theorem dX9_much_2 : decode cX9_much 2 = .ok (.iload_n 1, 1) := by decide +kernel
theorem dX9_much_3 : decode cX9_much 3 = .ok (.invokevirtual 124, 3) := by decide +kernel
theorem dX9_much_6 : decode cX9_much 6 = .ok (.ifCond .eq 24, 3) := by decide +kernel
theorem dX9_much_9 : decode cX9_much 9 = .ok (.aload_n 0, 1) := by decide +kernel
theorem dX9_much_10 : decode cX9_much 10 = .ok (.iconst 0, 1) := by decide +kernel
theorem dX9_much_11 : decode cX9_much 11 = .ok (.iload_n 2, 1) := by decide +kernel
theorem dX9_much_12 : decode cX9_much 12 = .ok (.invokevirtual 124, 3) := by decide +kernel
theorem dX9_much_15 : decode cX9_much 15 = .ok (.ifCond .eq 15, 3) := by decide +kernel
theorem dX9_much_18 : decode cX9_much 18 = .ok (.aload_n 0, 1) := by decide +kernel
theorem dX9_much_19 : decode cX9_much 19 = .ok (.getfield 65, 3) := by decide +kernel
theorem dX9_much_22 : decode cX9_much 22 = .ok (.iload_n 1, 1) := by decide +kernel
theorem dX9_much_23 : decode cX9_much 23 = .ok (.iload_n 2, 1) := by decide +kernel
theorem dX9_much_24 : decode cX9_much 24 = .ok (.invokevirtual 128, 3) := by decide +kernel
theorem dX9_much_27 : decode cX9_much 27 = .ok (.goto 4, 3) := by decide +kernel
theorem dX9_much_30 : decode cX9_much 30 = .ok (.iconst (-1), 1) := by decide +kernel
theorem dX9_much_31 : decode cX9_much 31 = .ok (.ireturn, 1) := by decide +kernel
theorem dX9_need_0 : decode cX9_need 0 = .ok (.aload_n 0, 1) := by decide +kernel
theorem dX9_need_1 : decode cX9_need 1 = .ok (.iconst 0, 1) := by decide +kernel
theorem dX9_need_2 : decode cX9_need 2 = .ok (.iload_n 1, 1) := by decide +kernel
theorem dX9_need_3 : decode cX9_need 3 = .ok (.invokevirtual 124, 3) := by decide +kernel
theorem dX9_need_6 : decode cX9_need 6 = .ok (.ifCond .eq 18, 3) := by decide +kernel
theorem dX9_need_9 : decode cX9_need 9 = .ok (.aload_n 0, 1) := by decide +kernel
theorem dX9_need_10 : decode cX9_need 10 = .ok (.getfield 65, 3) := by decide +kernel
theorem dX9_need_13 : decode cX9_need 13 = .ok (.getfield 168, 3) := by decide +kernel
theorem dX9_need_16 : decode cX9_need 16 = .ok (.getfield 186, 3) := by decide +kernel
theorem dX9_need_19 : decode cX9_need 19 = .ok (.iload_n 1, 1) := by decide +kernel
theorem dX9_need_20 : decode cX9_need 20 = .ok (.iaload, 1) := by decide +kernel
theorem dX9_need_21 : decode cX9_need 21 = .ok (.goto 4, 3) := by decide +kernel
theorem dX9_need_24 : decode cX9_need 24 = .ok (.iconst (-1), 1) := by decide +kernel
theorem dX9_need_25 : decode cX9_need 25 = .ok (.ireturn, 1) := by decide +kernel
theorem dX9_noteFault_0 : decode cX9_noteFault 0 = .ok (.aload_n 0, 1) := by decide +kernel
theorem dX9_noteFault_1 : decode cX9_noteFault 1 = .ok (.aload_n 0, 1) := by decide +kernel
theorem dX9_noteFault_2 : decode cX9_noteFault 2 = .ok (.getfield 10, 3) := by decide +kernel
theorem dX9_noteFault_5 : decode cX9_noteFault 5 = .ok (.getfield 367, 3) := by decide +kernel
theorem dX9_noteFault_8 : decode cX9_noteFault 8 = .ok (.putfield 44, 3) := by decide +kernel
theorem dX9_noteFault_11 : decode cX9_noteFault 11 = .ok (.aload_n 0, 1) := by decide +kernel
theorem dX9_noteFault_12 : decode cX9_noteFault 12 = .ok (.getfield 10, 3) := by decide +kernel
theorem dX9_noteFault_15 : decode cX9_noteFault 15 = .ok (.iconst 0, 1) := by decide +kernel
theorem dX9_noteFault_16 : decode cX9_noteFault 16 = .ok (.putfield 100, 3) := by decide +kernel
theorem dX9_noteFault_19 : decode cX9_noteFault 19 = .ok (.return_, 1) := by decide +kernel
theorem dX9_now_0 : decode cX9_now 0 = .ok (.iload_n 1, 1) := by decide +kernel
theorem dX9_now_1 : decode cX9_now 1 = .ok (.tableswitch 113 0 6 #[43, 51, 59, 67, 75, 83, 98], 43) := by decide +kernel
theorem dX9_now_44 : decode cX9_now 44 = .ok (.aload_n 0, 1) := by decide +kernel
theorem dX9_now_45 : decode cX9_now 45 = .ok (.getfield 65, 3) := by decide +kernel
theorem dX9_now_48 : decode cX9_now 48 = .ok (.getfield 192, 3) := by decide +kernel
theorem dX9_now_51 : decode cX9_now 51 = .ok (.ireturn, 1) := by decide +kernel
theorem dX9_now_52 : decode cX9_now 52 = .ok (.aload_n 0, 1) := by decide +kernel
theorem dX9_now_53 : decode cX9_now 53 = .ok (.getfield 65, 3) := by decide +kernel
theorem dX9_now_56 : decode cX9_now 56 = .ok (.invokevirtual 195, 3) := by decide +kernel
theorem dX9_now_59 : decode cX9_now 59 = .ok (.ireturn, 1) := by decide +kernel
theorem dX9_now_60 : decode cX9_now 60 = .ok (.aload_n 0, 1) := by decide +kernel
theorem dX9_now_61 : decode cX9_now 61 = .ok (.getfield 65, 3) := by decide +kernel
theorem dX9_now_64 : decode cX9_now 64 = .ok (.invokevirtual 199, 3) := by decide +kernel
theorem dX9_now_67 : decode cX9_now 67 = .ok (.ireturn, 1) := by decide +kernel
theorem dX9_now_68 : decode cX9_now 68 = .ok (.aload_n 0, 1) := by decide +kernel
theorem dX9_now_69 : decode cX9_now 69 = .ok (.getfield 65, 3) := by decide +kernel
theorem dX9_now_72 : decode cX9_now 72 = .ok (.invokevirtual 202, 3) := by decide +kernel
theorem dX9_now_75 : decode cX9_now 75 = .ok (.ireturn, 1) := by decide +kernel
theorem dX9_now_76 : decode cX9_now 76 = .ok (.aload_n 0, 1) := by decide +kernel
theorem dX9_now_77 : decode cX9_now 77 = .ok (.getfield 65, 3) := by decide +kernel
theorem dX9_now_80 : decode cX9_now 80 = .ok (.invokevirtual 205, 3) := by decide +kernel
theorem dX9_now_83 : decode cX9_now 83 = .ok (.ireturn, 1) := by decide +kernel
theorem dX9_now_84 : decode cX9_now 84 = .ok (.aload_n 0, 1) := by decide +kernel
theorem dX9_now_85 : decode cX9_now 85 = .ok (.getfield 65, 3) := by decide +kernel
theorem dX9_now_88 : decode cX9_now 88 = .ok (.aload_n 0, 1) := by decide +kernel
theorem dX9_now_89 : decode cX9_now 89 = .ok (.getfield 65, 3) := by decide +kernel
theorem dX9_now_92 : decode cX9_now 92 = .ok (.getfield 149, 3) := by decide +kernel
theorem dX9_now_95 : decode cX9_now 95 = .ok (.invokevirtual 208, 3) := by decide +kernel
theorem dX9_now_98 : decode cX9_now 98 = .ok (.ireturn, 1) := by decide +kernel
theorem dX9_now_99 : decode cX9_now 99 = .ok (.aload_n 0, 1) := by decide +kernel
theorem dX9_now_100 : decode cX9_now 100 = .ok (.getfield 65, 3) := by decide +kernel
theorem dX9_now_103 : decode cX9_now 103 = .ok (.aload_n 0, 1) := by decide +kernel
theorem dX9_now_104 : decode cX9_now 104 = .ok (.getfield 65, 3) := by decide +kernel
theorem dX9_now_107 : decode cX9_now 107 = .ok (.getfield 155, 3) := by decide +kernel
theorem dX9_now_110 : decode cX9_now 110 = .ok (.invokevirtual 208, 3) := by decide +kernel
theorem dX9_now_113 : decode cX9_now 113 = .ok (.ireturn, 1) := by decide +kernel
theorem dX9_now_114 : decode cX9_now 114 = .ok (.iconst (-1), 1) := by decide +kernel
theorem dX9_now_115 : decode cX9_now 115 = .ok (.ireturn, 1) := by decide +kernel
theorem dX9_odds_0 : decode cX9_odds 0 = .ok (.aload_n 0, 1) := by decide +kernel
theorem dX9_odds_1 : decode cX9_odds 1 = .ok (.iconst 2, 1) := by decide +kernel
theorem dX9_odds_2 : decode cX9_odds 2 = .ok (.iload_n 1, 1) := by decide +kernel
theorem dX9_odds_3 : decode cX9_odds 3 = .ok (.invokevirtual 124, 3) := by decide +kernel
theorem dX9_odds_6 : decode cX9_odds 6 = .ok (.ifCond .eq 23, 3) := by decide +kernel
theorem dX9_odds_9 : decode cX9_odds 9 = .ok (.aload_n 0, 1) := by decide +kernel
theorem dX9_odds_10 : decode cX9_odds 10 = .ok (.iconst 0, 1) := by decide +kernel
theorem dX9_odds_11 : decode cX9_odds 11 = .ok (.iload_n 2, 1) := by decide +kernel
theorem dX9_odds_12 : decode cX9_odds 12 = .ok (.invokevirtual 124, 3) := by decide +kernel
theorem dX9_odds_15 : decode cX9_odds 15 = .ok (.ifCond .eq 14, 3) := by decide +kernel
theorem dX9_odds_18 : decode cX9_odds 18 = .ok (.iload_n 3, 1) := by decide +kernel
theorem dX9_odds_19 : decode cX9_odds 19 = .ok (.iconst 1, 1) := by decide +kernel
theorem dX9_odds_20 : decode cX9_odds 20 = .ok (.if_icmp .lt 9, 3) := by decide +kernel
theorem dX9_odds_23 : decode cX9_odds 23 = .ok (.iload_n 3, 1) := by decide +kernel
theorem dX9_odds_24 : decode cX9_odds 24 = .ok (.bipush 30, 2) := by decide +kernel
theorem dX9_odds_26 : decode cX9_odds 26 = .ok (.if_icmp .le 5, 3) := by decide +kernel
theorem dX9_odds_29 : decode cX9_odds 29 = .ok (.iconst (-1), 1) := by decide +kernel
theorem dX9_odds_30 : decode cX9_odds 30 = .ok (.ireturn, 1) := by decide +kernel
theorem dX9_odds_31 : decode cX9_odds 31 = .ok (.iconst 0, 1) := by decide +kernel
theorem dX9_odds_32 : decode cX9_odds 32 = .ok (.istore 5, 2) := by decide +kernel
theorem dX9_odds_34 : decode cX9_odds 34 = .ok (.iconst 0, 1) := by decide +kernel
theorem dX9_odds_35 : decode cX9_odds 35 = .ok (.istore 6, 2) := by decide +kernel
theorem dX9_odds_37 : decode cX9_odds 37 = .ok (.iload 6, 2) := by decide +kernel
theorem dX9_odds_39 : decode cX9_odds 39 = .ok (.iload_n 3, 1) := by decide +kernel
theorem dX9_odds_40 : decode cX9_odds 40 = .ok (.if_icmp .ge 50, 3) := by decide +kernel
theorem dX9_odds_43 : decode cX9_odds 43 = .ok (.aload_n 0, 1) := by decide +kernel
theorem dX9_odds_44 : decode cX9_odds 44 = .ok (.getfield 69, 3) := by decide +kernel
theorem dX9_odds_47 : decode cX9_odds 47 = .ok (.aload_n 0, 1) := by decide +kernel
theorem dX9_odds_48 : decode cX9_odds 48 = .ok (.getfield 65, 3) := by decide +kernel
theorem dX9_odds_51 : decode cX9_odds 51 = .ok (.invokevirtual 113, 3) := by decide +kernel
theorem dX9_odds_54 : decode cX9_odds 54 = .ok (.aload_n 0, 1) := by decide +kernel
theorem dX9_odds_55 : decode cX9_odds 55 = .ok (.getfield 69, 3) := by decide +kernel
theorem dX9_odds_58 : decode cX9_odds 58 = .ok (.bipush 20, 2) := by decide +kernel
theorem dX9_odds_60 : decode cX9_odds 60 = .ok (.iload 4, 2) := by decide +kernel
theorem dX9_odds_62 : decode cX9_odds 62 = .ok (.iload 6, 2) := by decide +kernel
theorem dX9_odds_64 : decode cX9_odds 64 = .ok (.iadd, 1) := by decide +kernel
theorem dX9_odds_65 : decode cX9_odds 65 = .ok (.invokevirtual 328, 3) := by decide +kernel
theorem dX9_odds_68 : decode cX9_odds 68 = .ok (.pop, 1) := by decide +kernel
theorem dX9_odds_69 : decode cX9_odds 69 = .ok (.aload_n 0, 1) := by decide +kernel
theorem dX9_odds_70 : decode cX9_odds 70 = .ok (.getfield 69, 3) := by decide +kernel
theorem dX9_odds_73 : decode cX9_odds 73 = .ok (.iload_n 1, 1) := by decide +kernel
theorem dX9_odds_74 : decode cX9_odds 74 = .ok (.invokevirtual 139, 3) := by decide +kernel
theorem dX9_odds_77 : decode cX9_odds 77 = .ok (.iload_n 2, 1) := by decide +kernel
theorem dX9_odds_78 : decode cX9_odds 78 = .ok (.if_icmp .ne 6, 3) := by decide +kernel
theorem dX9_odds_81 : decode cX9_odds 81 = .ok (.iinc 5 1, 3) := by decide +kernel
theorem dX9_odds_84 : decode cX9_odds 84 = .ok (.iinc 6 1, 3) := by decide +kernel
theorem dX9_odds_87 : decode cX9_odds 87 = .ok (.goto (-50), 3) := by decide +kernel
theorem dX9_odds_90 : decode cX9_odds 90 = .ok (.iload 5, 2) := by decide +kernel
theorem dX9_odds_92 : decode cX9_odds 92 = .ok (.ireturn, 1) := by decide +kernel
theorem dX9_open_0 : decode cX9_open 0 = .ok (.aload_n 0, 1) := by decide +kernel
theorem dX9_open_1 : decode cX9_open 1 = .ok (.iconst 2, 1) := by decide +kernel
theorem dX9_open_2 : decode cX9_open 2 = .ok (.iload_n 1, 1) := by decide +kernel
theorem dX9_open_3 : decode cX9_open 3 = .ok (.invokevirtual 124, 3) := by decide +kernel
theorem dX9_open_6 : decode cX9_open 6 = .ok (.ifCond .ne 5, 3) := by decide +kernel
theorem dX9_open_9 : decode cX9_open 9 = .ok (.iconst (-1), 1) := by decide +kernel
theorem dX9_open_10 : decode cX9_open 10 = .ok (.ireturn, 1) := by decide +kernel
theorem dX9_open_11 : decode cX9_open 11 = .ok (.aload_n 0, 1) := by decide +kernel
theorem dX9_open_12 : decode cX9_open 12 = .ok (.getfield 75, 3) := by decide +kernel
theorem dX9_open_15 : decode cX9_open 15 = .ok (.aload_n 0, 1) := by decide +kernel
theorem dX9_open_16 : decode cX9_open 16 = .ok (.getfield 65, 3) := by decide +kernel
theorem dX9_open_19 : decode cX9_open 19 = .ok (.invokevirtual 212, 3) := by decide +kernel
theorem dX9_open_22 : decode cX9_open 22 = .ok (.aload_n 0, 1) := by decide +kernel
theorem dX9_open_23 : decode cX9_open 23 = .ok (.aload_n 0, 1) := by decide +kernel
theorem dX9_open_24 : decode cX9_open 24 = .ok (.getfield 65, 3) := by decide +kernel
theorem dX9_open_27 : decode cX9_open 27 = .ok (.iload_n 1, 1) := by decide +kernel
theorem dX9_open_28 : decode cX9_open 28 = .ok (.invokevirtual 236, 3) := by decide +kernel
theorem dX9_open_31 : decode cX9_open 31 = .ok (.invokevirtual 218, 3) := by decide +kernel
theorem dX9_open_34 : decode cX9_open 34 = .ok (.ireturn, 1) := by decide +kernel
theorem dX9_quarrels_0 : decode cX9_quarrels 0 = .ok (.aload_n 0, 1) := by decide +kernel
theorem dX9_quarrels_1 : decode cX9_quarrels 1 = .ok (.iconst 0, 1) := by decide +kernel
theorem dX9_quarrels_2 : decode cX9_quarrels 2 = .ok (.iload_n 1, 1) := by decide +kernel
theorem dX9_quarrels_3 : decode cX9_quarrels 3 = .ok (.invokevirtual 124, 3) := by decide +kernel
theorem dX9_quarrels_6 : decode cX9_quarrels 6 = .ok (.ifCond .eq 18, 3) := by decide +kernel
theorem dX9_quarrels_9 : decode cX9_quarrels 9 = .ok (.aload_n 0, 1) := by decide +kernel
theorem dX9_quarrels_10 : decode cX9_quarrels 10 = .ok (.getfield 65, 3) := by decide +kernel
theorem dX9_quarrels_13 : decode cX9_quarrels 13 = .ok (.getfield 168, 3) := by decide +kernel
theorem dX9_quarrels_16 : decode cX9_quarrels 16 = .ok (.getfield 189, 3) := by decide +kernel
theorem dX9_quarrels_19 : decode cX9_quarrels 19 = .ok (.iload_n 1, 1) := by decide +kernel
theorem dX9_quarrels_20 : decode cX9_quarrels 20 = .ok (.iaload, 1) := by decide +kernel
theorem dX9_quarrels_21 : decode cX9_quarrels 21 = .ok (.goto 4, 3) := by decide +kernel
theorem dX9_quarrels_24 : decode cX9_quarrels 24 = .ok (.iconst (-1), 1) := by decide +kernel
theorem dX9_quarrels_25 : decode cX9_quarrels 25 = .ok (.ireturn, 1) := by decide +kernel
theorem dX9_rest_0 : decode cX9_rest 0 = .ok (.aload_n 0, 1) := by decide +kernel
theorem dX9_rest_1 : decode cX9_rest 1 = .ok (.getfield 69, 3) := by decide +kernel
theorem dX9_rest_4 : decode cX9_rest 4 = .ok (.aload_n 0, 1) := by decide +kernel
theorem dX9_rest_5 : decode cX9_rest 5 = .ok (.getfield 65, 3) := by decide +kernel
theorem dX9_rest_8 : decode cX9_rest 8 = .ok (.invokevirtual 113, 3) := by decide +kernel
theorem dX9_rest_11 : decode cX9_rest 11 = .ok (.aload_n 0, 1) := by decide +kernel
theorem dX9_rest_12 : decode cX9_rest 12 = .ok (.getfield 69, 3) := by decide +kernel
theorem dX9_rest_15 : decode cX9_rest 15 = .ok (.invokevirtual 294, 3) := by decide +kernel
theorem dX9_rest_18 : decode cX9_rest 18 = .ok (.istore_n 1, 1) := by decide +kernel
theorem dX9_rest_19 : decode cX9_rest 19 = .ok (.aload_n 0, 1) := by decide +kernel
theorem dX9_rest_20 : decode cX9_rest 20 = .ok (.getfield 34, 3) := by decide +kernel
theorem dX9_rest_23 : decode cX9_rest 23 = .ok (.iconst (-1), 1) := by decide +kernel
theorem dX9_rest_24 : decode cX9_rest 24 = .ok (.invokestatic 86, 3) := by decide +kernel
theorem dX9_rest_27 : decode cX9_rest 27 = .ok (.aload_n 0, 1) := by decide +kernel
theorem dX9_rest_28 : decode cX9_rest 28 = .ok (.getfield 69, 3) := by decide +kernel
theorem dX9_rest_31 : decode cX9_rest 31 = .ok (.getfield 175, 3) := by decide +kernel
theorem dX9_rest_34 : decode cX9_rest 34 = .ok (.iconst 0, 1) := by decide +kernel
theorem dX9_rest_35 : decode cX9_rest 35 = .ok (.aload_n 0, 1) := by decide +kernel
theorem dX9_rest_36 : decode cX9_rest 36 = .ok (.getfield 34, 3) := by decide +kernel
theorem dX9_rest_39 : decode cX9_rest 39 = .ok (.iconst 0, 1) := by decide +kernel
theorem dX9_rest_40 : decode cX9_rest 40 = .ok (.aload_n 0, 1) := by decide +kernel
theorem dX9_rest_41 : decode cX9_rest 41 = .ok (.getfield 65, 3) := by decide +kernel
theorem dX9_rest_44 : decode cX9_rest 44 = .ok (.getfield 168, 3) := by decide +kernel
theorem dX9_rest_47 : decode cX9_rest 47 = .ok (.getfield 297, 3) := by decide +kernel
theorem dX9_rest_50 : decode cX9_rest 50 = .ok (.iconst 3, 1) := by decide +kernel
theorem dX9_rest_51 : decode cX9_rest 51 = .ok (.iaload, 1) := by decide +kernel
theorem dX9_rest_52 : decode cX9_rest 52 = .ok (.invokestatic 300, 3) := by decide +kernel
theorem dX9_rest_55 : decode cX9_rest 55 = .ok (.iload_n 1, 1) := by decide +kernel
theorem dX9_rest_56 : decode cX9_rest 56 = .ok (.ireturn, 1) := by decide +kernel
theorem dX9_rested_0 : decode cX9_rested 0 = .ok (.iload_n 1, 1) := by decide +kernel
theorem dX9_rested_1 : decode cX9_rested 1 = .ok (.ifCond .lt 18, 3) := by decide +kernel
theorem dX9_rested_4 : decode cX9_rested 4 = .ok (.iload_n 1, 1) := by decide +kernel
theorem dX9_rested_5 : decode cX9_rested 5 = .ok (.bipush 8, 2) := by decide +kernel
theorem dX9_rested_7 : decode cX9_rested 7 = .ok (.if_icmp .ge 12, 3) := by decide +kernel
theorem dX9_rested_10 : decode cX9_rested 10 = .ok (.aload_n 0, 1) := by decide +kernel
theorem dX9_rested_11 : decode cX9_rested 11 = .ok (.getfield 34, 3) := by decide +kernel
theorem dX9_rested_14 : decode cX9_rested 14 = .ok (.iload_n 1, 1) := by decide +kernel
theorem dX9_rested_15 : decode cX9_rested 15 = .ok (.iaload, 1) := by decide +kernel
theorem dX9_rested_16 : decode cX9_rested 16 = .ok (.goto 4, 3) := by decide +kernel
theorem dX9_rested_19 : decode cX9_rested 19 = .ok (.iconst (-1), 1) := by decide +kernel
theorem dX9_rested_20 : decode cX9_rested 20 = .ok (.ireturn, 1) := by decide +kernel
theorem dX9_restore_0 : decode cX9_restore 0 = .ok (.iload_n 1, 1) := by decide +kernel
theorem dX9_restore_1 : decode cX9_restore 1 = .ok (.ifCond .lt 24, 3) := by decide +kernel
theorem dX9_restore_4 : decode cX9_restore 4 = .ok (.iload_n 1, 1) := by decide +kernel
theorem dX9_restore_5 : decode cX9_restore 5 = .ok (.aload_n 0, 1) := by decide +kernel
theorem dX9_restore_6 : decode cX9_restore 6 = .ok (.getfield 82, 3) := by decide +kernel
theorem dX9_restore_9 : decode cX9_restore 9 = .ok (.arraylength, 1) := by decide +kernel
theorem dX9_restore_10 : decode cX9_restore 10 = .ok (.if_icmp .ge 15, 3) := by decide +kernel
theorem dX9_restore_13 : decode cX9_restore 13 = .ok (.aload_n 0, 1) := by decide +kernel
theorem dX9_restore_14 : decode cX9_restore 14 = .ok (.getfield 82, 3) := by decide +kernel
theorem dX9_restore_17 : decode cX9_restore 17 = .ok (.iload_n 1, 1) := by decide +kernel
theorem dX9_restore_18 : decode cX9_restore 18 = .ok (.aaload, 1) := by decide +kernel
theorem dX9_restore_19 : decode cX9_restore 19 = .ok (.getfield 355, 3) := by decide +kernel
theorem dX9_restore_22 : decode cX9_restore 22 = .ok (.ifCond .ne 5, 3) := by decide +kernel
theorem dX9_restore_25 : decode cX9_restore 25 = .ok (.iconst 0, 1) := by decide +kernel
theorem dX9_restore_26 : decode cX9_restore 26 = .ok (.ireturn, 1) := by decide +kernel
theorem dX9_restore_27 : decode cX9_restore 27 = .ok (.aload_n 0, 1) := by decide +kernel
theorem dX9_restore_28 : decode cX9_restore 28 = .ok (.getfield 65, 3) := by decide +kernel
theorem dX9_restore_31 : decode cX9_restore 31 = .ok (.aload_n 0, 1) := by decide +kernel
theorem dX9_restore_32 : decode cX9_restore 32 = .ok (.getfield 82, 3) := by decide +kernel
theorem dX9_restore_35 : decode cX9_restore 35 = .ok (.iload_n 1, 1) := by decide +kernel
theorem dX9_restore_36 : decode cX9_restore 36 = .ok (.aaload, 1) := by decide +kernel
theorem dX9_restore_37 : decode cX9_restore 37 = .ok (.getfield 359, 3) := by decide +kernel
theorem dX9_restore_40 : decode cX9_restore 40 = .ok (.invokevirtual 113, 3) := by decide +kernel
theorem dX9_restore_43 : decode cX9_restore 43 = .ok (.aload_n 0, 1) := by decide +kernel
theorem dX9_restore_44 : decode cX9_restore 44 = .ok (.aload_n 0, 1) := by decide +kernel
theorem dX9_restore_45 : decode cX9_restore 45 = .ok (.getfield 82, 3) := by decide +kernel
theorem dX9_restore_48 : decode cX9_restore 48 = .ok (.iload_n 1, 1) := by decide +kernel
theorem dX9_restore_49 : decode cX9_restore 49 = .ok (.aaload, 1) := by decide +kernel
theorem dX9_restore_50 : decode cX9_restore 50 = .ok (.getfield 360, 3) := by decide +kernel
theorem dX9_restore_53 : decode cX9_restore 53 = .ok (.putfield 117, 3) := by decide +kernel
theorem dX9_restore_56 : decode cX9_restore 56 = .ok (.aload_n 0, 1) := by decide +kernel
theorem dX9_restore_57 : decode cX9_restore 57 = .ok (.getfield 75, 3) := by decide +kernel
theorem dX9_restore_60 : decode cX9_restore 60 = .ok (.invokevirtual 121, 3) := by decide +kernel
theorem dX9_restore_63 : decode cX9_restore 63 = .ok (.iconst 1, 1) := by decide +kernel
theorem dX9_restore_64 : decode cX9_restore 64 = .ok (.ireturn, 1) := by decide +kernel
theorem dX9_roomOf_0 : decode cX9_roomOf 0 = .ok (.iload_n 1, 1) := by decide +kernel
theorem dX9_roomOf_1 : decode cX9_roomOf 1 = .ok (.ifCond .lt 21, 3) := by decide +kernel
theorem dX9_roomOf_4 : decode cX9_roomOf 4 = .ok (.iload_n 1, 1) := by decide +kernel
theorem dX9_roomOf_5 : decode cX9_roomOf 5 = .ok (.bipush 6, 2) := by decide +kernel
theorem dX9_roomOf_7 : decode cX9_roomOf 7 = .ok (.if_icmp .ge 15, 3) := by decide +kernel
theorem dX9_roomOf_10 : decode cX9_roomOf 10 = .ok (.aload_n 0, 1) := by decide +kernel
theorem dX9_roomOf_11 : decode cX9_roomOf 11 = .ok (.getfield 30, 3) := by decide +kernel
theorem dX9_roomOf_14 : decode cX9_roomOf 14 = .ok (.getfield 293, 3) := by decide +kernel
theorem dX9_roomOf_17 : decode cX9_roomOf 17 = .ok (.iload_n 1, 1) := by decide +kernel
theorem dX9_roomOf_18 : decode cX9_roomOf 18 = .ok (.iaload, 1) := by decide +kernel
theorem dX9_roomOf_19 : decode cX9_roomOf 19 = .ok (.goto 4, 3) := by decide +kernel
theorem dX9_roomOf_22 : decode cX9_roomOf 22 = .ok (.iconst (-1), 1) := by decide +kernel
theorem dX9_roomOf_23 : decode cX9_roomOf 23 = .ok (.ireturn, 1) := by decide +kernel
theorem dX9_rooms_0 : decode cX9_rooms 0 = .ok (.aload_n 0, 1) := by decide +kernel
theorem dX9_rooms_1 : decode cX9_rooms 1 = .ok (.getfield 30, 3) := by decide +kernel
theorem dX9_rooms_4 : decode cX9_rooms 4 = .ok (.aload_n 0, 1) := by decide +kernel
theorem dX9_rooms_5 : decode cX9_rooms 5 = .ok (.getfield 65, 3) := by decide +kernel
theorem dX9_rooms_8 : decode cX9_rooms 8 = .ok (.invokevirtual 290, 3) := by decide +kernel
theorem dX9_rooms_11 : decode cX9_rooms 11 = .ok (.ireturn, 1) := by decide +kernel
theorem dX9_said_0 : decode cX9_said 0 = .ok (.aload_n 0, 1) := by decide +kernel
theorem dX9_said_1 : decode cX9_said 1 = .ok (.getfield 117, 3) := by decide +kernel
theorem dX9_said_4 : decode cX9_said 4 = .ok (.astore_n 2, 1) := by decide +kernel
theorem dX9_said_5 : decode cX9_said 5 = .ok (.aload_n 2, 1) := by decide +kernel
theorem dX9_said_6 : decode cX9_said 6 = .ok (.ifnull 8, 3) := by decide +kernel
theorem dX9_said_9 : decode cX9_said 9 = .ok (.iload_n 1, 1) := by decide +kernel
theorem dX9_said_10 : decode cX9_said 10 = .ok (.iconst (-1), 1) := by decide +kernel
theorem dX9_said_11 : decode cX9_said 11 = .ok (.if_icmp .ge 5, 3) := by decide +kernel
theorem dX9_said_14 : decode cX9_said 14 = .ok (.iconst (-1), 1) := by decide +kernel
theorem dX9_said_15 : decode cX9_said 15 = .ok (.ireturn, 1) := by decide +kernel
theorem dX9_said_16 : decode cX9_said 16 = .ok (.iconst 0, 1) := by decide +kernel
theorem dX9_said_17 : decode cX9_said 17 = .ok (.istore_n 3, 1) := by decide +kernel
theorem dX9_said_18 : decode cX9_said 18 = .ok (.iconst 0, 1) := by decide +kernel
theorem dX9_said_19 : decode cX9_said 19 = .ok (.istore 4, 2) := by decide +kernel
theorem dX9_said_21 : decode cX9_said 21 = .ok (.iload 4, 2) := by decide +kernel
theorem dX9_said_23 : decode cX9_said 23 = .ok (.aload_n 0, 1) := by decide +kernel
theorem dX9_said_24 : decode cX9_said 24 = .ok (.getfield 65, 3) := by decide +kernel
theorem dX9_said_27 : decode cX9_said 27 = .ok (.getfield 168, 3) := by decide +kernel
theorem dX9_said_30 : decode cX9_said 30 = .ok (.getfield 297, 3) := by decide +kernel
theorem dX9_said_33 : decode cX9_said 33 = .ok (.iconst 2, 1) := by decide +kernel
theorem dX9_said_34 : decode cX9_said 34 = .ok (.iaload, 1) := by decide +kernel
theorem dX9_said_35 : decode cX9_said 35 = .ok (.if_icmp .ge 33, 3) := by decide +kernel
theorem dX9_said_38 : decode cX9_said 38 = .ok (.aload_n 2, 1) := by decide +kernel
theorem dX9_said_39 : decode cX9_said 39 = .ok (.aload_n 0, 1) := by decide +kernel
theorem dX9_said_40 : decode cX9_said 40 = .ok (.getfield 65, 3) := by decide +kernel
theorem dX9_said_43 : decode cX9_said 43 = .ok (.iload 4, 2) := by decide +kernel
theorem dX9_said_45 : decode cX9_said 45 = .ok (.invokevirtual 347, 3) := by decide +kernel
theorem dX9_said_48 : decode cX9_said 48 = .ok (.ifCond .eq 14, 3) := by decide +kernel
theorem dX9_said_51 : decode cX9_said 51 = .ok (.iload_n 3, 1) := by decide +kernel
theorem dX9_said_52 : decode cX9_said 52 = .ok (.iload_n 1, 1) := by decide +kernel
theorem dX9_said_53 : decode cX9_said 53 = .ok (.if_icmp .ne 6, 3) := by decide +kernel
theorem dX9_said_56 : decode cX9_said 56 = .ok (.iload 4, 2) := by decide +kernel
theorem dX9_said_58 : decode cX9_said 58 = .ok (.ireturn, 1) := by decide +kernel
theorem dX9_said_59 : decode cX9_said 59 = .ok (.iinc 3 1, 3) := by decide +kernel
theorem dX9_said_62 : decode cX9_said 62 = .ok (.iinc 4 1, 3) := by decide +kernel
theorem dX9_said_65 : decode cX9_said 65 = .ok (.goto (-44), 3) := by decide +kernel
theorem dX9_said_68 : decode cX9_said 68 = .ok (.iload_n 1, 1) := by decide +kernel
theorem dX9_said_69 : decode cX9_said 69 = .ok (.iconst (-1), 1) := by decide +kernel
theorem dX9_said_70 : decode cX9_said 70 = .ok (.if_icmp .ne 7, 3) := by decide +kernel
theorem dX9_said_73 : decode cX9_said 73 = .ok (.iload_n 3, 1) := by decide +kernel
theorem dX9_said_74 : decode cX9_said 74 = .ok (.goto 4, 3) := by decide +kernel
theorem dX9_said_77 : decode cX9_said 77 = .ok (.iconst (-1), 1) := by decide +kernel
theorem dX9_said_78 : decode cX9_said 78 = .ok (.ireturn, 1) := by decide +kernel
theorem dX9_sit_0 : decode cX9_sit 0 = .ok (.aload_n 0, 1) := by decide +kernel
theorem dX9_sit_1 : decode cX9_sit 1 = .ok (.iconst 3, 1) := by decide +kernel
theorem dX9_sit_2 : decode cX9_sit 2 = .ok (.iload_n 1, 1) := by decide +kernel
theorem dX9_sit_3 : decode cX9_sit 3 = .ok (.invokevirtual 124, 3) := by decide +kernel
theorem dX9_sit_6 : decode cX9_sit 6 = .ok (.ifCond .eq 12, 3) := by decide +kernel
theorem dX9_sit_9 : decode cX9_sit 9 = .ok (.aload_n 0, 1) := by decide +kernel
theorem dX9_sit_10 : decode cX9_sit 10 = .ok (.iconst 2, 1) := by decide +kernel
theorem dX9_sit_11 : decode cX9_sit 11 = .ok (.iload_n 2, 1) := by decide +kernel
theorem dX9_sit_12 : decode cX9_sit 12 = .ok (.invokevirtual 124, 3) := by decide +kernel
theorem dX9_sit_15 : decode cX9_sit 15 = .ok (.ifCond .ne 5, 3) := by decide +kernel
theorem dX9_sit_18 : decode cX9_sit 18 = .ok (.iconst (-1), 1) := by decide +kernel
theorem dX9_sit_19 : decode cX9_sit 19 = .ok (.ireturn, 1) := by decide +kernel
theorem dX9_sit_20 : decode cX9_sit 20 = .ok (.aload_n 0, 1) := by decide +kernel
theorem dX9_sit_21 : decode cX9_sit 21 = .ok (.getfield 75, 3) := by decide +kernel
theorem dX9_sit_24 : decode cX9_sit 24 = .ok (.aload_n 0, 1) := by decide +kernel
theorem dX9_sit_25 : decode cX9_sit 25 = .ok (.getfield 65, 3) := by decide +kernel
theorem dX9_sit_28 : decode cX9_sit 28 = .ok (.invokevirtual 212, 3) := by decide +kernel
theorem dX9_sit_31 : decode cX9_sit 31 = .ok (.aload_n 0, 1) := by decide +kernel
theorem dX9_sit_32 : decode cX9_sit 32 = .ok (.aload_n 0, 1) := by decide +kernel
theorem dX9_sit_33 : decode cX9_sit 33 = .ok (.getfield 65, 3) := by decide +kernel
theorem dX9_sit_36 : decode cX9_sit 36 = .ok (.iload_n 1, 1) := by decide +kernel
theorem dX9_sit_37 : decode cX9_sit 37 = .ok (.iload_n 2, 1) := by decide +kernel
theorem dX9_sit_38 : decode cX9_sit 38 = .ok (.invokevirtual 215, 3) := by decide +kernel
theorem dX9_sit_41 : decode cX9_sit 41 = .ok (.invokevirtual 218, 3) := by decide +kernel
theorem dX9_sit_44 : decode cX9_sit 44 = .ok (.ireturn, 1) := by decide +kernel
theorem dX9_sitters_0 : decode cX9_sitters 0 = .ok (.aload_n 0, 1) := by decide +kernel
theorem dX9_sitters_1 : decode cX9_sitters 1 = .ok (.iconst 2, 1) := by decide +kernel
theorem dX9_sitters_2 : decode cX9_sitters 2 = .ok (.iload_n 1, 1) := by decide +kernel
theorem dX9_sitters_3 : decode cX9_sitters 3 = .ok (.invokevirtual 124, 3) := by decide +kernel
theorem dX9_sitters_6 : decode cX9_sitters 6 = .ok (.ifCond .eq 23, 3) := by decide +kernel
theorem dX9_sitters_9 : decode cX9_sitters 9 = .ok (.aload_n 0, 1) := by decide +kernel
theorem dX9_sitters_10 : decode cX9_sitters 10 = .ok (.iconst 0, 1) := by decide +kernel
theorem dX9_sitters_11 : decode cX9_sitters 11 = .ok (.iload_n 2, 1) := by decide +kernel
theorem dX9_sitters_12 : decode cX9_sitters 12 = .ok (.invokevirtual 124, 3) := by decide +kernel
theorem dX9_sitters_15 : decode cX9_sitters 15 = .ok (.ifCond .eq 14, 3) := by decide +kernel
theorem dX9_sitters_18 : decode cX9_sitters 18 = .ok (.iload_n 3, 1) := by decide +kernel
theorem dX9_sitters_19 : decode cX9_sitters 19 = .ok (.iconst 1, 1) := by decide +kernel
theorem dX9_sitters_20 : decode cX9_sitters 20 = .ok (.if_icmp .lt 9, 3) := by decide +kernel
theorem dX9_sitters_23 : decode cX9_sitters 23 = .ok (.iload_n 3, 1) := by decide +kernel
theorem dX9_sitters_24 : decode cX9_sitters 24 = .ok (.bipush 30, 2) := by decide +kernel
theorem dX9_sitters_26 : decode cX9_sitters 26 = .ok (.if_icmp .le 5, 3) := by decide +kernel
theorem dX9_sitters_29 : decode cX9_sitters 29 = .ok (.iconst (-1), 1) := by decide +kernel
theorem dX9_sitters_30 : decode cX9_sitters 30 = .ok (.ireturn, 1) := by decide +kernel
theorem dX9_sitters_31 : decode cX9_sitters 31 = .ok (.aload_n 0, 1) := by decide +kernel
theorem dX9_sitters_32 : decode cX9_sitters 32 = .ok (.getfield 65, 3) := by decide +kernel
theorem dX9_sitters_35 : decode cX9_sitters 35 = .ok (.iload_n 1, 1) := by decide +kernel
theorem dX9_sitters_36 : decode cX9_sitters 36 = .ok (.invokevirtual 267, 3) := by decide +kernel
theorem dX9_sitters_39 : decode cX9_sitters 39 = .ok (.ifCond .ne 14, 3) := by decide +kernel
theorem dX9_sitters_42 : decode cX9_sitters 42 = .ok (.iload_n 3, 1) := by decide +kernel
theorem dX9_sitters_43 : decode cX9_sitters 43 = .ok (.aload_n 0, 1) := by decide +kernel
theorem dX9_sitters_44 : decode cX9_sitters 44 = .ok (.getfield 65, 3) := by decide +kernel
theorem dX9_sitters_47 : decode cX9_sitters 47 = .ok (.invokevirtual 252, 3) := by decide +kernel
theorem dX9_sitters_50 : decode cX9_sitters 50 = .ok (.if_icmp .le 5, 3) := by decide +kernel
theorem dX9_sitters_53 : decode cX9_sitters 53 = .ok (.iconst (-1), 1) := by decide +kernel
theorem dX9_sitters_54 : decode cX9_sitters 54 = .ok (.ireturn, 1) := by decide +kernel
theorem dX9_sitters_55 : decode cX9_sitters 55 = .ok (.aload_n 0, 1) := by decide +kernel
theorem dX9_sitters_56 : decode cX9_sitters 56 = .ok (.iload_n 1, 1) := by decide +kernel
theorem dX9_sitters_57 : decode cX9_sitters 57 = .ok (.iload_n 2, 1) := by decide +kernel
theorem dX9_sitters_58 : decode cX9_sitters 58 = .ok (.iload_n 3, 1) := by decide +kernel
theorem dX9_sitters_59 : decode cX9_sitters 59 = .ok (.invokevirtual 270, 3) := by decide +kernel
theorem dX9_sitters_62 : decode cX9_sitters 62 = .ok (.istore 4, 2) := by decide +kernel
theorem dX9_sitters_64 : decode cX9_sitters 64 = .ok (.iload 4, 2) := by decide +kernel
theorem dX9_sitters_66 : decode cX9_sitters 66 = .ok (.iconst (-1), 1) := by decide +kernel
theorem dX9_sitters_67 : decode cX9_sitters 67 = .ok (.if_icmp .ne 5, 3) := by decide +kernel
theorem dX9_sitters_70 : decode cX9_sitters 70 = .ok (.iconst (-1), 1) := by decide +kernel
theorem dX9_sitters_71 : decode cX9_sitters 71 = .ok (.ireturn, 1) := by decide +kernel
theorem dX9_sitters_72 : decode cX9_sitters 72 = .ok (.aload_n 0, 1) := by decide +kernel
theorem dX9_sitters_73 : decode cX9_sitters 73 = .ok (.iload 4, 2) := by decide +kernel
theorem dX9_sitters_75 : decode cX9_sitters 75 = .ok (.putfield 48, 3) := by decide +kernel
theorem dX9_sitters_78 : decode cX9_sitters 78 = .ok (.iload 4, 2) := by decide +kernel
theorem dX9_sitters_80 : decode cX9_sitters 80 = .ok (.invokestatic 274, 3) := by decide +kernel
theorem dX9_sitters_83 : decode cX9_sitters 83 = .ok (.ireturn, 1) := by decide +kernel
theorem dX9_sitting_0 : decode cX9_sitting 0 = .ok (.aload_n 0, 1) := by decide +kernel
theorem dX9_sitting_1 : decode cX9_sitting 1 = .ok (.getfield 48, 3) := by decide +kernel
theorem dX9_sitting_4 : decode cX9_sitting 4 = .ok (.ireturn, 1) := by decide +kernel
theorem dX9_stand_0 : decode cX9_stand 0 = .ok (.aload_n 0, 1) := by decide +kernel
theorem dX9_stand_1 : decode cX9_stand 1 = .ok (.iconst 3, 1) := by decide +kernel
theorem dX9_stand_2 : decode cX9_stand 2 = .ok (.iload_n 1, 1) := by decide +kernel
theorem dX9_stand_3 : decode cX9_stand 3 = .ok (.invokevirtual 124, 3) := by decide +kernel
theorem dX9_stand_6 : decode cX9_stand 6 = .ok (.ifCond .ne 5, 3) := by decide +kernel
theorem dX9_stand_9 : decode cX9_stand 9 = .ok (.iconst (-1), 1) := by decide +kernel
theorem dX9_stand_10 : decode cX9_stand 10 = .ok (.ireturn, 1) := by decide +kernel
theorem dX9_stand_11 : decode cX9_stand 11 = .ok (.aload_n 0, 1) := by decide +kernel
theorem dX9_stand_12 : decode cX9_stand 12 = .ok (.getfield 75, 3) := by decide +kernel
theorem dX9_stand_15 : decode cX9_stand 15 = .ok (.aload_n 0, 1) := by decide +kernel
theorem dX9_stand_16 : decode cX9_stand 16 = .ok (.getfield 65, 3) := by decide +kernel
theorem dX9_stand_19 : decode cX9_stand 19 = .ok (.invokevirtual 212, 3) := by decide +kernel
theorem dX9_stand_22 : decode cX9_stand 22 = .ok (.aload_n 0, 1) := by decide +kernel
theorem dX9_stand_23 : decode cX9_stand 23 = .ok (.aload_n 0, 1) := by decide +kernel
theorem dX9_stand_24 : decode cX9_stand 24 = .ok (.getfield 65, 3) := by decide +kernel
theorem dX9_stand_27 : decode cX9_stand 27 = .ok (.iload_n 1, 1) := by decide +kernel
theorem dX9_stand_28 : decode cX9_stand 28 = .ok (.invokevirtual 221, 3) := by decide +kernel
theorem dX9_stand_31 : decode cX9_stand 31 = .ok (.invokevirtual 218, 3) := by decide +kernel
theorem dX9_stand_34 : decode cX9_stand 34 = .ok (.ireturn, 1) := by decide +kernel
theorem dX9_surely_0 : decode cX9_surely 0 = .ok (.aload_n 0, 1) := by decide +kernel
theorem dX9_surely_1 : decode cX9_surely 1 = .ok (.getfield 51, 3) := by decide +kernel
theorem dX9_surely_4 : decode cX9_surely 4 = .ok (.ireturn, 1) := by decide +kernel
theorem dX9_told_0 : decode cX9_told 0 = .ok (.iload_n 1, 1) := by decide +kernel
theorem dX9_told_1 : decode cX9_told 1 = .ok (.ifCond .lt 21, 3) := by decide +kernel
theorem dX9_told_4 : decode cX9_told 4 = .ok (.iload_n 1, 1) := by decide +kernel
theorem dX9_told_5 : decode cX9_told 5 = .ok (.aload_n 0, 1) := by decide +kernel
theorem dX9_told_6 : decode cX9_told 6 = .ok (.getfield 23, 3) := by decide +kernel
theorem dX9_told_9 : decode cX9_told 9 = .ok (.arraylength, 1) := by decide +kernel
theorem dX9_told_10 : decode cX9_told 10 = .ok (.if_icmp .ge 12, 3) := by decide +kernel
theorem dX9_told_13 : decode cX9_told 13 = .ok (.aload_n 0, 1) := by decide +kernel
theorem dX9_told_14 : decode cX9_told 14 = .ok (.getfield 23, 3) := by decide +kernel
theorem dX9_told_17 : decode cX9_told 17 = .ok (.iload_n 1, 1) := by decide +kernel
theorem dX9_told_18 : decode cX9_told 18 = .ok (.iaload, 1) := by decide +kernel
theorem dX9_told_19 : decode cX9_told 19 = .ok (.goto 4, 3) := by decide +kernel
theorem dX9_told_22 : decode cX9_told 22 = .ok (.iconst (-1), 1) := by decide +kernel
theorem dX9_told_23 : decode cX9_told 23 = .ok (.ireturn, 1) := by decide +kernel
theorem dX9_undo_0 : decode cX9_undo 0 = .ok (.aload_n 0, 1) := by decide +kernel
theorem dX9_undo_1 : decode cX9_undo 1 = .ok (.getfield 75, 3) := by decide +kernel
theorem dX9_undo_4 : decode cX9_undo 4 = .ok (.aload_n 0, 1) := by decide +kernel
theorem dX9_undo_5 : decode cX9_undo 5 = .ok (.getfield 65, 3) := by decide +kernel
theorem dX9_undo_8 : decode cX9_undo 8 = .ok (.invokevirtual 248, 3) := by decide +kernel
theorem dX9_undo_11 : decode cX9_undo 11 = .ok (.ireturn, 1) := by decide +kernel
theorem dX9_when_0 : decode cX9_when 0 = .ok (.aload_n 0, 1) := by decide +kernel
theorem dX9_when_1 : decode cX9_when 1 = .ok (.iconst 2, 1) := by decide +kernel
theorem dX9_when_2 : decode cX9_when 2 = .ok (.iload_n 1, 1) := by decide +kernel
theorem dX9_when_3 : decode cX9_when 3 = .ok (.invokevirtual 124, 3) := by decide +kernel
theorem dX9_when_6 : decode cX9_when 6 = .ok (.ifCond .eq 12, 3) := by decide +kernel
theorem dX9_when_9 : decode cX9_when 9 = .ok (.aload_n 0, 1) := by decide +kernel
theorem dX9_when_10 : decode cX9_when 10 = .ok (.iconst 0, 1) := by decide +kernel
theorem dX9_when_11 : decode cX9_when 11 = .ok (.iload_n 2, 1) := by decide +kernel
theorem dX9_when_12 : decode cX9_when 12 = .ok (.invokevirtual 124, 3) := by decide +kernel
theorem dX9_when_15 : decode cX9_when 15 = .ok (.ifCond .ne 5, 3) := by decide +kernel
theorem dX9_when_18 : decode cX9_when 18 = .ok (.iconst (-1), 1) := by decide +kernel
theorem dX9_when_19 : decode cX9_when 19 = .ok (.ireturn, 1) := by decide +kernel
theorem dX9_when_20 : decode cX9_when 20 = .ok (.bipush 60, 2) := by decide +kernel
theorem dX9_when_22 : decode cX9_when 22 = .ok (.aload_n 0, 1) := by decide +kernel
theorem dX9_when_23 : decode cX9_when 23 = .ok (.getfield 65, 3) := by decide +kernel
theorem dX9_when_26 : decode cX9_when 26 = .ok (.invokevirtual 252, 3) := by decide +kernel
theorem dX9_when_29 : decode cX9_when 29 = .ok (.invokestatic 255, 3) := by decide +kernel
theorem dX9_when_32 : decode cX9_when 32 = .ok (.istore_n 3, 1) := by decide +kernel
theorem dX9_when_33 : decode cX9_when 33 = .ok (.aload_n 0, 1) := by decide +kernel
theorem dX9_when_34 : decode cX9_when 34 = .ok (.getfield 65, 3) := by decide +kernel
theorem dX9_when_37 : decode cX9_when 37 = .ok (.iload_n 1, 1) := by decide +kernel
theorem dX9_when_38 : decode cX9_when 38 = .ok (.invokevirtual 260, 3) := by decide +kernel
theorem dX9_when_41 : decode cX9_when 41 = .ok (.pop, 1) := by decide +kernel
theorem dX9_when_42 : decode cX9_when 42 = .ok (.iconst 0, 1) := by decide +kernel
theorem dX9_when_43 : decode cX9_when 43 = .ok (.istore 4, 2) := by decide +kernel
theorem dX9_when_45 : decode cX9_when 45 = .ok (.iload 4, 2) := by decide +kernel
theorem dX9_when_47 : decode cX9_when 47 = .ok (.iload_n 3, 1) := by decide +kernel
theorem dX9_when_48 : decode cX9_when 48 = .ok (.if_icmp .gt 26, 3) := by decide +kernel
theorem dX9_when_51 : decode cX9_when 51 = .ok (.aload_n 0, 1) := by decide +kernel
theorem dX9_when_52 : decode cX9_when 52 = .ok (.getfield 65, 3) := by decide +kernel
theorem dX9_when_55 : decode cX9_when 55 = .ok (.iload_n 1, 1) := by decide +kernel
theorem dX9_when_56 : decode cX9_when 56 = .ok (.iload 4, 2) := by decide +kernel
theorem dX9_when_58 : decode cX9_when 58 = .ok (.invokevirtual 264, 3) := by decide +kernel
theorem dX9_when_61 : decode cX9_when 61 = .ok (.iload_n 2, 1) := by decide +kernel
theorem dX9_when_62 : decode cX9_when 62 = .ok (.if_icmp .ne 6, 3) := by decide +kernel
theorem dX9_when_65 : decode cX9_when 65 = .ok (.iload 4, 2) := by decide +kernel
theorem dX9_when_67 : decode cX9_when 67 = .ok (.ireturn, 1) := by decide +kernel
theorem dX9_when_68 : decode cX9_when 68 = .ok (.iinc 4 1, 3) := by decide +kernel
theorem dX9_when_71 : decode cX9_when 71 = .ok (.goto (-26), 3) := by decide +kernel
theorem dX9_when_74 : decode cX9_when 74 = .ok (.iconst (-1), 1) := by decide +kernel
theorem dX9_when_75 : decode cX9_when 75 = .ok (.ireturn, 1) := by decide +kernel
theorem dX9_wish_0 : decode cX9_wish 0 = .ok (.aload_n 0, 1) := by decide +kernel
theorem dX9_wish_1 : decode cX9_wish 1 = .ok (.iconst 3, 1) := by decide +kernel
theorem dX9_wish_2 : decode cX9_wish 2 = .ok (.iload_n 1, 1) := by decide +kernel
theorem dX9_wish_3 : decode cX9_wish 3 = .ok (.invokevirtual 124, 3) := by decide +kernel
theorem dX9_wish_6 : decode cX9_wish 6 = .ok (.ifCond .eq 12, 3) := by decide +kernel
theorem dX9_wish_9 : decode cX9_wish 9 = .ok (.aload_n 0, 1) := by decide +kernel
theorem dX9_wish_10 : decode cX9_wish 10 = .ok (.iconst 0, 1) := by decide +kernel
theorem dX9_wish_11 : decode cX9_wish 11 = .ok (.iload_n 2, 1) := by decide +kernel
theorem dX9_wish_12 : decode cX9_wish 12 = .ok (.invokevirtual 124, 3) := by decide +kernel
theorem dX9_wish_15 : decode cX9_wish 15 = .ok (.ifCond .ne 5, 3) := by decide +kernel
theorem dX9_wish_18 : decode cX9_wish 18 = .ok (.iconst (-1), 1) := by decide +kernel
theorem dX9_wish_19 : decode cX9_wish 19 = .ok (.ireturn, 1) := by decide +kernel
theorem dX9_wish_20 : decode cX9_wish 20 = .ok (.aload_n 0, 1) := by decide +kernel
theorem dX9_wish_21 : decode cX9_wish 21 = .ok (.getfield 75, 3) := by decide +kernel
theorem dX9_wish_24 : decode cX9_wish 24 = .ok (.aload_n 0, 1) := by decide +kernel
theorem dX9_wish_25 : decode cX9_wish 25 = .ok (.getfield 65, 3) := by decide +kernel
theorem dX9_wish_28 : decode cX9_wish 28 = .ok (.invokevirtual 212, 3) := by decide +kernel
theorem dX9_wish_31 : decode cX9_wish 31 = .ok (.aload_n 0, 1) := by decide +kernel
theorem dX9_wish_32 : decode cX9_wish 32 = .ok (.aload_n 0, 1) := by decide +kernel
theorem dX9_wish_33 : decode cX9_wish 33 = .ok (.getfield 65, 3) := by decide +kernel
theorem dX9_wish_36 : decode cX9_wish 36 = .ok (.iload_n 1, 1) := by decide +kernel
theorem dX9_wish_37 : decode cX9_wish 37 = .ok (.iload_n 2, 1) := by decide +kernel
theorem dX9_wish_38 : decode cX9_wish 38 = .ok (.invokevirtual 224, 3) := by decide +kernel
theorem dX9_wish_41 : decode cX9_wish 41 = .ok (.invokevirtual 218, 3) := by decide +kernel
theorem dX9_wish_44 : decode cX9_wish 44 = .ok (.ireturn, 1) := by decide +kernel
theorem rl_30 : RI 30 30 30 := by unfold RI; decide +kernel
theorem rl_63 : RI 63 63 63 := by unfold RI; decide +kernel
theorem rl_594 : RI 594 594 594 := by unfold RI; decide +kernel
theorem rl_252645135 : RI 252645135 252645135 252645135 := by unfold RI; decide +kernel
theorem rl_858993459 : RI 858993459 858993459 858993459 := by unfold RI; decide +kernel
theorem rl_1431655765 : RI 1431655765 1431655765 1431655765 := by unfold RI; decide +kernel
