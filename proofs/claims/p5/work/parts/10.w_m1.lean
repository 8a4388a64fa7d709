theorem inX3 : ∀ w ∈ u_ws RX3 TX3 9, w ∈ gT := by decide +kernel
theorem inX8 : ∀ w ∈ u_ws RX8 TX8 13, w ∈ gT := by decide +kernel
theorem tw_9 : Cond.initialized RJ7 ∈ gT := gT_t (List.mem_of_getElem? (i := 9) (by decide +kernel)) (by decide +kernel)
theorem tw_12 : Cond.initialized RX8 ∈ gT := gT_t (List.mem_of_getElem? (i := 12) (by decide +kernel)) (by decide +kernel)
theorem tw_16 : Cond.initialized RJ9 ∈ gT := gT_t (List.mem_of_getElem? (i := 16) (by decide +kernel)) (by decide +kernel)
theorem tw_17 : Cond.initialized RJ10 ∈ gT := gT_t (List.mem_of_getElem? (i := 17) (by decide +kernel)) (by decide +kernel)
theorem tw_167 : Cond.static yJ7_fill_53178 ∈ gT := gT_t (List.mem_of_getElem? (i := 167) (by decide +kernel)) (by decide +kernel)
theorem tw_168 : Cond.code yJ7_fill_53178 cJ7_fill_53178 4 none ∈ gT := gT_t (List.mem_of_getElem? (i := 168) (by decide +kernel)) (by decide +kernel)
theorem tw_246 : Cond.methodLink RX8 (46 : Nat) yJ7_fill_53178 ∈ gT := gT_t (List.mem_of_getElem? (i := 246) (by decide +kernel)) (by decide +kernel)
theorem tw_247 : Cond.fieldLink RX8 (42 : Nat) "WonderParcels$World" "post" "LWonderParcels$Post;" ∈ gT := gT_t (List.mem_of_getElem? (i := 247) (by decide +kernel)) (by decide +kernel)
theorem tw_250 : Cond.fieldLink RX8 (52 : Nat) "WonderParcels$World" "day" "I" ∈ gT := gT_t (List.mem_of_getElem? (i := 250) (by decide +kernel)) (by decide +kernel)
theorem tw_252 : Cond.fieldLink RX8 (9 : Nat) "WonderParcels$World" "much" "[I" ∈ gT := gT_t (List.mem_of_getElem? (i := 252) (by decide +kernel)) (by decide +kernel)
theorem tw_253 : Cond.fieldLink RX8 (15 : Nat) "WonderParcels$World" "room" "[I" ∈ gT := gT_t (List.mem_of_getElem? (i := 253) (by decide +kernel)) (by decide +kernel)
theorem tw_257 : Cond.fieldLink RX8 (18 : Nat) "WonderParcels$World" "bulge" "[I" ∈ gT := gT_t (List.mem_of_getElem? (i := 257) (by decide +kernel)) (by decide +kernel)
theorem tw_260 : Cond.fieldLink RX8 (21 : Nat) "WonderParcels$World" "open" "[I" ∈ gT := gT_t (List.mem_of_getElem? (i := 260) (by decide +kernel)) (by decide +kernel)
theorem tw_262 : Cond.fieldLink RX8 (24 : Nat) "WonderParcels$World" "turned" "[I" ∈ gT := gT_t (List.mem_of_getElem? (i := 262) (by decide +kernel)) (by decide +kernel)
theorem tw_265 : Cond.fieldLink RX8 (27 : Nat) "WonderParcels$World" "wish" "[I" ∈ gT := gT_t (List.mem_of_getElem? (i := 265) (by decide +kernel)) (by decide +kernel)
theorem tw_268 : Cond.fieldLink RX8 (30 : Nat) "WonderParcels$World" "seat" "[I" ∈ gT := gT_t (List.mem_of_getElem? (i := 268) (by decide +kernel)) (by decide +kernel)
theorem tw_271 : Cond.fieldLink RX8 (33 : Nat) "WonderParcels$World" "right" "[I" ∈ gT := gT_t (List.mem_of_getElem? (i := 271) (by decide +kernel)) (by decide +kernel)
theorem tw_273 : Cond.fieldLink RX8 (36 : Nat) "WonderParcels$World" "wrong" "[I" ∈ gT := gT_t (List.mem_of_getElem? (i := 273) (by decide +kernel)) (by decide +kernel)
theorem tw_275 : Cond.fieldLink RX8 (39 : Nat) "WonderParcels$World" "gain" "[I" ∈ gT := gT_t (List.mem_of_getElem? (i := 275) (by decide +kernel)) (by decide +kernel)
theorem tw_276 : Cond.fieldLink RX8 (119 : Nat) "WonderParcels$World" "seed" "I" ∈ gT := gT_t (List.mem_of_getElem? (i := 276) (by decide +kernel)) (by decide +kernel)
theorem tw_474 : Cond.instanceMethod yX8_has ∈ gT := gT_t (List.mem_of_getElem? (i := 474) (by decide +kernel)) (by decide +kernel)
theorem tw_475 : Cond.selects RX8 yX8_has yX8_has ∈ gT := gT_t (List.mem_of_getElem? (i := 475) (by decide +kernel)) (by decide +kernel)
theorem tw_476 : Cond.code yX8_has cX8_has 3 (some .int) ∈ gT := gT_t (List.mem_of_getElem? (i := 476) (by decide +kernel)) (by decide +kernel)
theorem tw_482 : Cond.instanceMethod yX8_put ∈ gT := gT_t (List.mem_of_getElem? (i := 482) (by decide +kernel)) (by decide +kernel)
theorem tw_483 : Cond.selects RX8 yX8_put yX8_put ∈ gT := gT_t (List.mem_of_getElem? (i := 483) (by decide +kernel)) (by decide +kernel)
theorem tw_484 : Cond.code yX8_put cX8_put 4 none ∈ gT := gT_t (List.mem_of_getElem? (i := 484) (by decide +kernel)) (by decide +kernel)
theorem tw_485 : Cond.methodLink RX8 (62 : Nat) yJ9_min_7cf53 ∈ gT := gT_t (List.mem_of_getElem? (i := 485) (by decide +kernel)) (by decide +kernel)
theorem tw_486 : Cond.static yJ9_min_7cf53 ∈ gT := gT_t (List.mem_of_getElem? (i := 486) (by decide +kernel)) (by decide +kernel)
theorem tw_487 : Cond.code yJ9_min_7cf53 cJ9_min_7cf53 2 (some .int) ∈ gT := gT_t (List.mem_of_getElem? (i := 487) (by decide +kernel)) (by decide +kernel)
theorem tw_488 : Cond.methodLink RX8 (68 : Nat) yJ9_max_7cf53 ∈ gT := gT_t (List.mem_of_getElem? (i := 488) (by decide +kernel)) (by decide +kernel)
theorem tw_489 : Cond.static yJ9_max_7cf53 ∈ gT := gT_t (List.mem_of_getElem? (i := 489) (by decide +kernel)) (by decide +kernel)
theorem tw_490 : Cond.code yJ9_max_7cf53 cJ9_max_7cf53 2 (some .int) ∈ gT := gT_t (List.mem_of_getElem? (i := 490) (by decide +kernel)) (by decide +kernel)
theorem tw_525 : Cond.methodLink RX8 (56 : Nat) (⟨"java/lang/System", "arraycopy", "(Ljava/lang/Object;ILjava/lang/Object;II)V"⟩ : MethodName) ∈ gT := gT_t (List.mem_of_getElem? (i := 525) (by decide +kernel)) (by decide +kernel)
theorem tw_526 : Cond.static (⟨RJ10, "arraycopy", "(Ljava/lang/Object;ILjava/lang/Object;II)V"⟩ : MethodName) ∈ gT := gT_t (List.mem_of_getElem? (i := 526) (by decide +kernel)) (by decide +kernel)
theorem tw_527 : Cond.native (⟨RJ10, "arraycopy", "(Ljava/lang/Object;ILjava/lang/Object;II)V"⟩ : MethodName) ∈ gT := gT_t (List.mem_of_getElem? (i := 527) (by decide +kernel)) (by decide +kernel)
theorem tw_561 : Cond.methodLink RX8 (95 : Nat) yX8_isOpen ∈ gT := gT_t (List.mem_of_getElem? (i := 561) (by decide +kernel)) (by decide +kernel)
theorem tw_562 : Cond.instanceMethod yX8_isOpen ∈ gT := gT_t (List.mem_of_getElem? (i := 562) (by decide +kernel)) (by decide +kernel)
theorem tw_563 : Cond.selects RX8 yX8_isOpen yX8_isOpen ∈ gT := gT_t (List.mem_of_getElem? (i := 563) (by decide +kernel)) (by decide +kernel)
theorem tw_564 : Cond.code yX8_isOpen cX8_isOpen 2 (some .boolean) ∈ gT := gT_t (List.mem_of_getElem? (i := 564) (by decide +kernel)) (by decide +kernel)
theorem tw_569 : Cond.methodLink RX8 (139 : Nat) yX8_isNow ∈ gT := gT_t (List.mem_of_getElem? (i := 569) (by decide +kernel)) (by decide +kernel)
theorem tw_570 : Cond.instanceMethod yX8_isNow ∈ gT := gT_t (List.mem_of_getElem? (i := 570) (by decide +kernel)) (by decide +kernel)
theorem tw_571 : Cond.selects RX8 yX8_isNow yX8_isNow ∈ gT := gT_t (List.mem_of_getElem? (i := 571) (by decide +kernel)) (by decide +kernel)
theorem tw_572 : Cond.code yX8_isNow cX8_isNow 2 (some .int) ∈ gT := gT_t (List.mem_of_getElem? (i := 572) (by decide +kernel)) (by decide +kernel)
theorem tw_573 : Cond.methodLink RX8 (71 : Nat) yX8_becomes ∈ gT := gT_t (List.mem_of_getElem? (i := 573) (by decide +kernel)) (by decide +kernel)
theorem tw_574 : Cond.instanceMethod yX8_becomes ∈ gT := gT_t (List.mem_of_getElem? (i := 574) (by decide +kernel)) (by decide +kernel)
theorem tw_575 : Cond.selects RX8 yX8_becomes yX8_becomes ∈ gT := gT_t (List.mem_of_getElem? (i := 575) (by decide +kernel)) (by decide +kernel)
theorem tw_576 : Cond.code yX8_becomes cX8_becomes 7 (some .int) ∈ gT := gT_t (List.mem_of_getElem? (i := 576) (by decide +kernel)) (by decide +kernel)
theorem tw_577 : Cond.methodLink RX8 (79 : Nat) yX8_willHave ∈ gT := gT_t (List.mem_of_getElem? (i := 577) (by decide +kernel)) (by decide +kernel)
theorem tw_579 : Cond.instanceMethod yX8_willHave ∈ gT := gT_t (List.mem_of_getElem? (i := 579) (by decide +kernel)) (by decide +kernel)
theorem tw_580 : Cond.code yX8_willHave cX8_willHave 5 (some .int) ∈ gT := gT_t (List.mem_of_getElem? (i := 580) (by decide +kernel)) (by decide +kernel)
theorem tw_585 : Cond.methodLink RX8 (159 : Nat) yX8_whoSitsBy ∈ gT := gT_t (List.mem_of_getElem? (i := 585) (by decide +kernel)) (by decide +kernel)
theorem tw_586 : Cond.instanceMethod yX8_whoSitsBy ∈ gT := gT_t (List.mem_of_getElem? (i := 586) (by decide +kernel)) (by decide +kernel)
theorem tw_587 : Cond.selects RX8 yX8_whoSitsBy yX8_whoSitsBy ∈ gT := gT_t (List.mem_of_getElem? (i := 587) (by decide +kernel)) (by decide +kernel)
theorem tw_588 : Cond.code yX8_whoSitsBy cX8_whoSitsBy 4 (some .int) ∈ gT := gT_t (List.mem_of_getElem? (i := 588) (by decide +kernel)) (by decide +kernel)
theorem tw_593 : Cond.methodLink RX8 (162 : Nat) yX8_sizeOf ∈ gT := gT_t (List.mem_of_getElem? (i := 593) (by decide +kernel)) (by decide +kernel)
theorem tw_594 : Cond.instanceMethod yX8_sizeOf ∈ gT := gT_t (List.mem_of_getElem? (i := 594) (by decide +kernel)) (by decide +kernel)
theorem tw_595 : Cond.selects RX8 yX8_sizeOf yX8_sizeOf ∈ gT := gT_t (List.mem_of_getElem? (i := 595) (by decide +kernel)) (by decide +kernel)
theorem tw_596 : Cond.code yX8_sizeOf cX8_sizeOf 4 (some .int) ∈ gT := gT_t (List.mem_of_getElem? (i := 596) (by decide +kernel)) (by decide +kernel)
theorem tw_597 : Cond.methodLink RX8 (146 : Nat) yX8_has ∈ gT := gT_t (List.mem_of_getElem? (i := 597) (by decide +kernel)) (by decide +kernel)
theorem tw_612 : Cond.instanceMethod yX8_sitDown ∈ gT := gT_t (List.mem_of_getElem? (i := 612) (by decide +kernel)) (by decide +kernel)
theorem tw_613 : Cond.selects RX8 yX8_sitDown yX8_sitDown ∈ gT := gT_t (List.mem_of_getElem? (i := 613) (by decide +kernel)) (by decide +kernel)
theorem tw_614 : Cond.code yX8_sitDown cX8_sitDown 3 (some .int) ∈ gT := gT_t (List.mem_of_getElem? (i := 614) (by decide +kernel)) (by decide +kernel)
theorem tw_629 : Cond.instanceMethod yX8_standUp ∈ gT := gT_t (List.mem_of_getElem? (i := 629) (by decide +kernel)) (by decide +kernel)
theorem tw_630 : Cond.selects RX8 yX8_standUp yX8_standUp ∈ gT := gT_t (List.mem_of_getElem? (i := 630) (by decide +kernel)) (by decide +kernel)
theorem tw_631 : Cond.code yX8_standUp cX8_standUp 2 (some .int) ∈ gT := gT_t (List.mem_of_getElem? (i := 631) (by decide +kernel)) (by decide +kernel)
theorem tw_637 : Cond.instanceMethod yX8_wishFor ∈ gT := gT_t (List.mem_of_getElem? (i := 637) (by decide +kernel)) (by decide +kernel)
theorem tw_638 : Cond.selects RX8 yX8_wishFor yX8_wishFor ∈ gT := gT_t (List.mem_of_getElem? (i := 638) (by decide +kernel)) (by decide +kernel)
theorem tw_639 : Cond.code yX8_wishFor cX8_wishFor 3 (some .int) ∈ gT := gT_t (List.mem_of_getElem? (i := 639) (by decide +kernel)) (by decide +kernel)
theorem tw_652 : Cond.methodLink RX8 (142 : Nat) yX8_lessBy ∈ gT := gT_t (List.mem_of_getElem? (i := 652) (by decide +kernel)) (by decide +kernel)
theorem tw_653 : Cond.instanceMethod yX8_lessBy ∈ gT := gT_t (List.mem_of_getElem? (i := 653) (by decide +kernel)) (by decide +kernel)
theorem tw_654 : Cond.selects RX8 yX8_lessBy yX8_lessBy ∈ gT := gT_t (List.mem_of_getElem? (i := 654) (by decide +kernel)) (by decide +kernel)
theorem tw_655 : Cond.code yX8_lessBy cX8_lessBy 3 none ∈ gT := gT_t (List.mem_of_getElem? (i := 655) (by decide +kernel)) (by decide +kernel)
theorem tw_656 : Cond.methodLink RX8 (149 : Nat) yX8_put ∈ gT := gT_t (List.mem_of_getElem? (i := 656) (by decide +kernel)) (by decide +kernel)
theorem tw_681 : Cond.methodLink RX8 (102 : Nat) yX8_daysLeft ∈ gT := gT_t (List.mem_of_getElem? (i := 681) (by decide +kernel)) (by decide +kernel)
theorem tw_682 : Cond.instanceMethod yX8_daysLeft ∈ gT := gT_t (List.mem_of_getElem? (i := 682) (by decide +kernel)) (by decide +kernel)
theorem tw_683 : Cond.selects RX8 yX8_daysLeft yX8_daysLeft ∈ gT := gT_t (List.mem_of_getElem? (i := 683) (by decide +kernel)) (by decide +kernel)
theorem tw_684 : Cond.code yX8_daysLeft cX8_daysLeft 1 (some .int) ∈ gT := gT_t (List.mem_of_getElem? (i := 684) (by decide +kernel)) (by decide +kernel)
theorem tw_685 : Cond.methodLink RX8 (106 : Nat) yX8_goDay ∈ gT := gT_t (List.mem_of_getElem? (i := 685) (by decide +kernel)) (by decide +kernel)
theorem tw_687 : Cond.instanceMethod yX8_goDay ∈ gT := gT_t (List.mem_of_getElem? (i := 687) (by decide +kernel)) (by decide +kernel)
theorem tw_688 : Cond.code yX8_goDay cX8_goDay 2 none ∈ gT := gT_t (List.mem_of_getElem? (i := 688) (by decide +kernel)) (by decide +kernel)
theorem tw_689 : Cond.methodLink RX8 (109 : Nat) yX8_reckonGain ∈ gT := gT_t (List.mem_of_getElem? (i := 689) (by decide +kernel)) (by decide +kernel)
theorem tw_690 : Cond.instanceMethod yX8_reckonGain ∈ gT := gT_t (List.mem_of_getElem? (i := 690) (by decide +kernel)) (by decide +kernel)
theorem tw_691 : Cond.selects RX8 yX8_reckonGain yX8_reckonGain ∈ gT := gT_t (List.mem_of_getElem? (i := 691) (by decide +kernel)) (by decide +kernel)
theorem tw_692 : Cond.code yX8_reckonGain cX8_reckonGain 5 (some .boolean) ∈ gT := gT_t (List.mem_of_getElem? (i := 692) (by decide +kernel)) (by decide +kernel)
theorem tw_693 : Cond.methodLink RX8 (86 : Nat) yX8_givesTo ∈ gT := gT_t (List.mem_of_getElem? (i := 693) (by decide +kernel)) (by decide +kernel)
theorem tw_695 : Cond.instanceMethod yX8_givesTo ∈ gT := gT_t (List.mem_of_getElem? (i := 695) (by decide +kernel)) (by decide +kernel)
theorem tw_696 : Cond.code yX8_givesTo cX8_givesTo 4 (some .int) ∈ gT := gT_t (List.mem_of_getElem? (i := 696) (by decide +kernel)) (by decide +kernel)
theorem tw_697 : Cond.methodLink RX8 (112 : Nat) yX8_grow ∈ gT := gT_t (List.mem_of_getElem? (i := 697) (by decide +kernel)) (by decide +kernel)
theorem tw_699 : Cond.instanceMethod yX8_grow ∈ gT := gT_t (List.mem_of_getElem? (i := 699) (by decide +kernel)) (by decide +kernel)
theorem tw_700 : Cond.code yX8_grow cX8_grow 3 none ∈ gT := gT_t (List.mem_of_getElem? (i := 700) (by decide +kernel)) (by decide +kernel)
theorem tw_701 : Cond.methodLink RX8 (116 : Nat) yX8_bulgesMore ∈ gT := gT_t (List.mem_of_getElem? (i := 701) (by decide +kernel)) (by decide +kernel)
theorem tw_702 : Cond.instanceMethod yX8_bulgesMore ∈ gT := gT_t (List.mem_of_getElem? (i := 702) (by decide +kernel)) (by decide +kernel)
theorem tw_703 : Cond.selects RX8 yX8_bulgesMore yX8_bulgesMore ∈ gT := gT_t (List.mem_of_getElem? (i := 703) (by decide +kernel)) (by decide +kernel)
theorem tw_704 : Cond.code yX8_bulgesMore cX8_bulgesMore 4 (some .int) ∈ gT := gT_t (List.mem_of_getElem? (i := 704) (by decide +kernel)) (by decide +kernel)
theorem tw_705 : Cond.methodLink RX8 (99 : Nat) yX8_wishesUnlike ∈ gT := gT_t (List.mem_of_getElem? (i := 705) (by decide +kernel)) (by decide +kernel)
theorem tw_707 : Cond.instanceMethod yX8_wishesUnlike ∈ gT := gT_t (List.mem_of_getElem? (i := 707) (by decide +kernel)) (by decide +kernel)
theorem tw_708 : Cond.code yX8_wishesUnlike cX8_wishesUnlike 4 (some .boolean) ∈ gT := gT_t (List.mem_of_getElem? (i := 708) (by decide +kernel)) (by decide +kernel)
theorem tw_815 : Cond.methodLink RX8 (156 : Nat) yX8_settle ∈ gT := gT_t (List.mem_of_getElem? (i := 815) (by decide +kernel)) (by decide +kernel)
theorem tw_817 : Cond.instanceMethod yX8_settle ∈ gT := gT_t (List.mem_of_getElem? (i := 817) (by decide +kernel)) (by decide +kernel)
theorem tw_818 : Cond.code yX8_settle cX8_settle 8 none ∈ gT := gT_t (List.mem_of_getElem? (i := 818) (by decide +kernel)) (by decide +kernel)
theorem tw_866 : Cond.methodLink RX8 (122 : Nat) yX8_drawFor ∈ gT := gT_t (List.mem_of_getElem? (i := 866) (by decide +kernel)) (by decide +kernel)
theorem tw_868 : Cond.instanceMethod yX8_drawFor ∈ gT := gT_t (List.mem_of_getElem? (i := 868) (by decide +kernel)) (by decide +kernel)
theorem tw_869 : Cond.code yX8_drawFor cX8_drawFor 3 none ∈ gT := gT_t (List.mem_of_getElem? (i := 869) (by decide +kernel)) (by decide +kernel)
theorem tw_870 : Cond.methodLink RX8 (125 : Nat) yX8_draw ∈ gT := gT_t (List.mem_of_getElem? (i := 870) (by decide +kernel)) (by decide +kernel)
theorem tw_872 : Cond.instanceMethod yX8_draw ∈ gT := gT_t (List.mem_of_getElem? (i := 872) (by decide +kernel)) (by decide +kernel)
theorem tw_873 : Cond.code yX8_draw cX8_draw 2 (some .int) ∈ gT := gT_t (List.mem_of_getElem? (i := 873) (by decide +kernel)) (by decide +kernel)
theorem tw_874 : Cond.constant RX8 (138 : Nat) (1103515245 : Int32) ∈ gT := gT_t (List.mem_of_getElem? (i := 874) (by decide +kernel)) (by decide +kernel)
theorem tw_875 : Cond.methodLink RX8 (129 : Nat) yX8_standUp ∈ gT := gT_t (List.mem_of_getElem? (i := 875) (by decide +kernel)) (by decide +kernel)
theorem tw_876 : Cond.methodLink RX8 (132 : Nat) yX8_sitDown ∈ gT := gT_t (List.mem_of_getElem? (i := 876) (by decide +kernel)) (by decide +kernel)
theorem tw_877 : Cond.methodLink RX8 (135 : Nat) yX8_wishFor ∈ gT := gT_t (List.mem_of_getElem? (i := 877) (by decide +kernel)) (by decide +kernel)
theorem tn_203 : Cond.fieldLinkNest RX8 (74 : Nat) "WonderParcels$Post" "many" "[I" "WonderParcels" ∈ nW := nW_t (List.mem_of_getElem? (i := 203) (by decide +kernel)) (by decide +kernel)
theorem tn_206 : Cond.fieldLinkNest RX8 (83 : Nat) "WonderParcels$Post" "need" "[I" "WonderParcels" ∈ nW := nW_t (List.mem_of_getElem? (i := 206) (by decide +kernel)) (by decide +kernel)
theorem tn_212 : Cond.fieldLinkNest RX8 (89 : Nat) "WonderParcels$Post" "keen" "[I" "WonderParcels" ∈ nW := nW_t (List.mem_of_getElem? (i := 212) (by decide +kernel)) (by decide +kernel)
theorem tn_214 : Cond.fieldLinkNest RX8 (92 : Nat) "WonderParcels$Post" "leak" "I" "WonderParcels" ∈ nW := nW_t (List.mem_of_getElem? (i := 214) (by decide +kernel)) (by decide +kernel)
theorem tn_217 : Cond.fieldLinkNest RX8 (153 : Nat) "WonderParcels$Post" "guess" "I" "WonderParcels" ∈ nW := nW_t (List.mem_of_getElem? (i := 217) (by decide +kernel)) (by decide +kernel)
theorem ts_11 : Cond.selects RX8 yX8_willHave yX8_willHave ∈ gT := gT_s (by decide +kernel) (by decide +kernel)
theorem ts_13 : Cond.selects RX8 yX8_goDay yX8_goDay ∈ gT := gT_s (by decide +kernel) (by decide +kernel)
theorem ts_14 : Cond.selects RX8 yX8_givesTo yX8_givesTo ∈ gT := gT_s (by decide +kernel) (by decide +kernel)
theorem ts_15 : Cond.selects RX8 yX8_grow yX8_grow ∈ gT := gT_s (by decide +kernel) (by decide +kernel)
theorem ts_16 : Cond.selects RX8 yX8_wishesUnlike yX8_wishesUnlike ∈ gT := gT_s (by decide +kernel) (by decide +kernel)
theorem ts_22 : Cond.selects RX8 yX8_settle yX8_settle ∈ gT := gT_s (by decide +kernel) (by decide +kernel)
theorem ts_24 : Cond.selects RX8 yX8_drawFor yX8_drawFor ∈ gT := gT_s (by decide +kernel) (by decide +kernel)
theorem ts_25 : Cond.selects RX8 yX8_draw yX8_draw ∈ gT := gT_s (by decide +kernel) (by decide +kernel)
theorem dJ7_fill_53178_0 : decode cJ7_fill_53178 0 = .ok (.iconst 0, 1) := by decide +kernel
theorem dJ7_fill_53178_1 : decode cJ7_fill_53178 1 = .ok (.istore_n 2, 1) := by decide +kernel
theorem dJ7_fill_53178_2 : decode cJ7_fill_53178 2 = .ok (.aload_n 0, 1) := by decide +kernel
theorem dJ7_fill_53178_3 : decode cJ7_fill_53178 3 = .ok (.arraylength, 1) := by decide +kernel
theorem dJ7_fill_53178_4 : decode cJ7_fill_53178 4 = .ok (.istore_n 3, 1) := by decide +kernel
theorem dJ7_fill_53178_5 : decode cJ7_fill_53178 5 = .ok (.iload_n 2, 1) := by decide +kernel
theorem dJ7_fill_53178_6 : decode cJ7_fill_53178 6 = .ok (.iload_n 3, 1) := by decide +kernel
theorem dJ7_fill_53178_7 : decode cJ7_fill_53178 7 = .ok (.if_icmp .ge 13, 3) := by decide +kernel
theorem dJ7_fill_53178_10 : decode cJ7_fill_53178 10 = .ok (.aload_n 0, 1) := by decide +kernel
theorem dJ7_fill_53178_11 : decode cJ7_fill_53178 11 = .ok (.iload_n 2, 1) := by decide +kernel
theorem dJ7_fill_53178_12 : decode cJ7_fill_53178 12 = .ok (.iload_n 1, 1) := by decide +kernel
theorem dJ7_fill_53178_13 : decode cJ7_fill_53178 13 = .ok (.iastore, 1) := by decide +kernel
theorem dJ7_fill_53178_14 : decode cJ7_fill_53178 14 = .ok (.iinc 2 1, 3) := by decide +kernel
theorem dJ7_fill_53178_17 : decode cJ7_fill_53178 17 = .ok (.goto (-12), 3) := by decide +kernel
theorem dJ7_fill_53178_20 : decode cJ7_fill_53178 20 = .ok (.return_, 1) := by decide +kernel
theorem dX8_allThatAllHave_0 : decode cX8_allThatAllHave 0 = .ok (.iconst 0, 1) := by decide +kernel
theorem dX8_allThatAllHave_1 : decode cX8_allThatAllHave 1 = .ok (.istore_n 1, 1) := by decide +kernel
theorem dX8_allThatAllHave_2 : decode cX8_allThatAllHave 2 = .ok (.iconst 0, 1) := by decide +kernel
theorem dX8_allThatAllHave_3 : decode cX8_allThatAllHave 3 = .ok (.istore_n 2, 1) := by decide +kernel
theorem dX8_allThatAllHave_4 : decode cX8_allThatAllHave 4 = .ok (.iload_n 2, 1) := by decide +kernel
theorem dX8_allThatAllHave_5 : decode cX8_allThatAllHave 5 = .ok (.aload_n 0, 1) := by decide +kernel
theorem dX8_allThatAllHave_6 : decode cX8_allThatAllHave 6 = .ok (.getfield 42, 3) := by decide +kernel
theorem dX8_allThatAllHave_9 : decode cX8_allThatAllHave 9 = .ok (.getfield 74, 3) := by decide +kernel
theorem dX8_allThatAllHave_12 : decode cX8_allThatAllHave 12 = .ok (.iconst 2, 1) := by decide +kernel
theorem dX8_allThatAllHave_13 : decode cX8_allThatAllHave 13 = .ok (.iaload, 1) := by decide +kernel
theorem dX8_allThatAllHave_14 : decode cX8_allThatAllHave 14 = .ok (.if_icmp .ge 17, 3) := by decide +kernel
theorem dX8_allThatAllHave_17 : decode cX8_allThatAllHave 17 = .ok (.iload_n 1, 1) := by decide +kernel
theorem dX8_allThatAllHave_18 : decode cX8_allThatAllHave 18 = .ok (.aload_n 0, 1) := by decide +kernel
theorem dX8_allThatAllHave_19 : decode cX8_allThatAllHave 19 = .ok (.iload_n 2, 1) := by decide +kernel
theorem dX8_allThatAllHave_20 : decode cX8_allThatAllHave 20 = .ok (.invokevirtual 162, 3) := by decide +kernel
theorem dX8_allThatAllHave_23 : decode cX8_allThatAllHave 23 = .ok (.iadd, 1) := by decide +kernel
theorem dX8_allThatAllHave_24 : decode cX8_allThatAllHave 24 = .ok (.istore_n 1, 1) := by decide +kernel
theorem dX8_allThatAllHave_25 : decode cX8_allThatAllHave 25 = .ok (.iinc 2 1, 3) := by decide +kernel
theorem dX8_allThatAllHave_28 : decode cX8_allThatAllHave 28 = .ok (.goto (-24), 3) := by decide +kernel
theorem dX8_allThatAllHave_31 : decode cX8_allThatAllHave 31 = .ok (.iload_n 1, 1) := by decide +kernel
theorem dX8_allThatAllHave_32 : decode cX8_allThatAllHave 32 = .ok (.ireturn, 1) := by decide +kernel
theorem dX8_becomes_0 : decode cX8_becomes 0 = .ok (.iconst (-1), 1) := by decide +kernel
theorem dX8_becomes_1 : decode cX8_becomes 1 = .ok (.istore_n 3, 1) := by decide +kernel
theorem dX8_becomes_2 : decode cX8_becomes 2 = .ok (.iconst 0, 1) := by decide +kernel
theorem dX8_becomes_3 : decode cX8_becomes 3 = .ok (.istore 4, 2) := by decide +kernel
theorem dX8_becomes_5 : decode cX8_becomes 5 = .ok (.iconst 0, 1) := by decide +kernel
theorem dX8_becomes_6 : decode cX8_becomes 6 = .ok (.istore 5, 2) := by decide +kernel
theorem dX8_becomes_8 : decode cX8_becomes 8 = .ok (.iload 5, 2) := by decide +kernel
theorem dX8_becomes_10 : decode cX8_becomes 10 = .ok (.aload_n 0, 1) := by decide +kernel
theorem dX8_becomes_11 : decode cX8_becomes 11 = .ok (.getfield 42, 3) := by decide +kernel
theorem dX8_becomes_14 : decode cX8_becomes 14 = .ok (.getfield 74, 3) := by decide +kernel
theorem dX8_becomes_17 : decode cX8_becomes 17 = .ok (.iconst 0, 1) := by decide +kernel
theorem dX8_becomes_18 : decode cX8_becomes 18 = .ok (.iaload, 1) := by decide +kernel
theorem dX8_becomes_19 : decode cX8_becomes 19 = .ok (.if_icmp .ge 48, 3) := by decide +kernel
theorem dX8_becomes_22 : decode cX8_becomes 22 = .ok (.aload_n 0, 1) := by decide +kernel
theorem dX8_becomes_23 : decode cX8_becomes 23 = .ok (.iload_n 1, 1) := by decide +kernel
theorem dX8_becomes_24 : decode cX8_becomes 24 = .ok (.iload 5, 2) := by decide +kernel
theorem dX8_becomes_26 : decode cX8_becomes 26 = .ok (.iload_n 2, 1) := by decide +kernel
theorem dX8_becomes_27 : decode cX8_becomes 27 = .ok (.invokevirtual 79, 3) := by decide +kernel
theorem dX8_becomes_30 : decode cX8_becomes 30 = .ok (.istore 6, 2) := by decide +kernel
theorem dX8_becomes_32 : decode cX8_becomes 32 = .ok (.iload 6, 2) := by decide +kernel
theorem dX8_becomes_34 : decode cX8_becomes 34 = .ok (.aload_n 0, 1) := by decide +kernel
theorem dX8_becomes_35 : decode cX8_becomes 35 = .ok (.getfield 42, 3) := by decide +kernel
theorem dX8_becomes_38 : decode cX8_becomes 38 = .ok (.getfield 83, 3) := by decide +kernel
theorem dX8_becomes_41 : decode cX8_becomes 41 = .ok (.iload 5, 2) := by decide +kernel
theorem dX8_becomes_43 : decode cX8_becomes 43 = .ok (.iaload, 1) := by decide +kernel
theorem dX8_becomes_44 : decode cX8_becomes 44 = .ok (.if_icmp .lt 17, 3) := by decide +kernel
theorem dX8_becomes_47 : decode cX8_becomes 47 = .ok (.iload 6, 2) := by decide +kernel
theorem dX8_becomes_49 : decode cX8_becomes 49 = .ok (.iload 4, 2) := by decide +kernel
theorem dX8_becomes_51 : decode cX8_becomes 51 = .ok (.if_icmp .le 10, 3) := by decide +kernel
theorem dX8_becomes_54 : decode cX8_becomes 54 = .ok (.iload 5, 2) := by decide +kernel
theorem dX8_becomes_56 : decode cX8_becomes 56 = .ok (.istore_n 3, 1) := by decide +kernel
theorem dX8_becomes_57 : decode cX8_becomes 57 = .ok (.iload 6, 2) := by decide +kernel
theorem dX8_becomes_59 : decode cX8_becomes 59 = .ok (.istore 4, 2) := by decide +kernel
theorem dX8_becomes_61 : decode cX8_becomes 61 = .ok (.iinc 5 1, 3) := by decide +kernel
theorem dX8_becomes_64 : decode cX8_becomes 64 = .ok (.goto (-56), 3) := by decide +kernel
theorem dX8_becomes_67 : decode cX8_becomes 67 = .ok (.iload_n 3, 1) := by decide +kernel
theorem dX8_becomes_68 : decode cX8_becomes 68 = .ok (.ireturn, 1) := by decide +kernel
theorem dX8_begin_0 : decode cX8_begin 0 = .ok (.aload_n 0, 1) := by decide +kernel
theorem dX8_begin_1 : decode cX8_begin 1 = .ok (.aload_n 1, 1) := by decide +kernel
theorem dX8_begin_2 : decode cX8_begin 2 = .ok (.putfield 42, 3) := by decide +kernel
theorem dX8_begin_5 : decode cX8_begin 5 = .ok (.aload_n 0, 1) := by decide +kernel
theorem dX8_begin_6 : decode cX8_begin 6 = .ok (.iconst 0, 1) := by decide +kernel
theorem dX8_begin_7 : decode cX8_begin 7 = .ok (.putfield 52, 3) := by decide +kernel
theorem dX8_begin_10 : decode cX8_begin 10 = .ok (.aload_n 0, 1) := by decide +kernel
theorem dX8_begin_11 : decode cX8_begin 11 = .ok (.getfield 9, 3) := by decide +kernel
theorem dX8_begin_14 : decode cX8_begin 14 = .ok (.iconst 0, 1) := by decide +kernel
theorem dX8_begin_15 : decode cX8_begin 15 = .ok (.invokestatic 46, 3) := by decide +kernel
theorem dX8_begin_18 : decode cX8_begin 18 = .ok (.aload_n 0, 1) := by decide +kernel
theorem dX8_begin_19 : decode cX8_begin 19 = .ok (.getfield 15, 3) := by decide +kernel
theorem dX8_begin_22 : decode cX8_begin 22 = .ok (.iconst 0, 1) := by decide +kernel
theorem dX8_begin_23 : decode cX8_begin 23 = .ok (.invokestatic 46, 3) := by decide +kernel
theorem dX8_begin_26 : decode cX8_begin 26 = .ok (.aload_n 0, 1) := by decide +kernel
theorem dX8_begin_27 : decode cX8_begin 27 = .ok (.getfield 18, 3) := by decide +kernel
theorem dX8_begin_30 : decode cX8_begin 30 = .ok (.iconst 0, 1) := by decide +kernel
theorem dX8_begin_31 : decode cX8_begin 31 = .ok (.invokestatic 46, 3) := by decide +kernel
theorem dX8_begin_34 : decode cX8_begin 34 = .ok (.aload_n 0, 1) := by decide +kernel
theorem dX8_begin_35 : decode cX8_begin 35 = .ok (.getfield 21, 3) := by decide +kernel
theorem dX8_begin_38 : decode cX8_begin 38 = .ok (.iconst 0, 1) := by decide +kernel
theorem dX8_begin_39 : decode cX8_begin 39 = .ok (.invokestatic 46, 3) := by decide +kernel
theorem dX8_begin_42 : decode cX8_begin 42 = .ok (.aload_n 0, 1) := by decide +kernel
theorem dX8_begin_43 : decode cX8_begin 43 = .ok (.getfield 24, 3) := by decide +kernel
theorem dX8_begin_46 : decode cX8_begin 46 = .ok (.iconst 0, 1) := by decide +kernel
theorem dX8_begin_47 : decode cX8_begin 47 = .ok (.invokestatic 46, 3) := by decide +kernel
theorem dX8_begin_50 : decode cX8_begin 50 = .ok (.aload_n 0, 1) := by decide +kernel
theorem dX8_begin_51 : decode cX8_begin 51 = .ok (.getfield 27, 3) := by decide +kernel
theorem dX8_begin_54 : decode cX8_begin 54 = .ok (.iconst 0, 1) := by decide +kernel
theorem dX8_begin_55 : decode cX8_begin 55 = .ok (.invokestatic 46, 3) := by decide +kernel
theorem dX8_begin_58 : decode cX8_begin 58 = .ok (.aload_n 0, 1) := by decide +kernel
theorem dX8_begin_59 : decode cX8_begin 59 = .ok (.getfield 30, 3) := by decide +kernel
theorem dX8_begin_62 : decode cX8_begin 62 = .ok (.iconst (-1), 1) := by decide +kernel
theorem dX8_begin_63 : decode cX8_begin 63 = .ok (.invokestatic 46, 3) := by decide +kernel
theorem dX8_begin_66 : decode cX8_begin 66 = .ok (.aload_n 0, 1) := by decide +kernel
theorem dX8_begin_67 : decode cX8_begin 67 = .ok (.getfield 33, 3) := by decide +kernel
theorem dX8_begin_70 : decode cX8_begin 70 = .ok (.iconst 0, 1) := by decide +kernel
theorem dX8_begin_71 : decode cX8_begin 71 = .ok (.invokestatic 46, 3) := by decide +kernel
theorem dX8_begin_74 : decode cX8_begin 74 = .ok (.aload_n 0, 1) := by decide +kernel
theorem dX8_begin_75 : decode cX8_begin 75 = .ok (.getfield 36, 3) := by decide +kernel
theorem dX8_begin_78 : decode cX8_begin 78 = .ok (.iconst 0, 1) := by decide +kernel
theorem dX8_begin_79 : decode cX8_begin 79 = .ok (.invokestatic 46, 3) := by decide +kernel
theorem dX8_begin_82 : decode cX8_begin 82 = .ok (.return_, 1) := by decide +kernel
theorem dX8_bulgesMore_0 : decode cX8_bulgesMore 0 = .ok (.aload_n 0, 1) := by decide +kernel
theorem dX8_bulgesMore_1 : decode cX8_bulgesMore 1 = .ok (.iload_n 1, 1) := by decide +kernel
theorem dX8_bulgesMore_2 : decode cX8_bulgesMore 2 = .ok (.invokevirtual 95, 3) := by decide +kernel
theorem dX8_bulgesMore_5 : decode cX8_bulgesMore 5 = .ok (.ifCond .ne 15, 3) := by decide +kernel
theorem dX8_bulgesMore_8 : decode cX8_bulgesMore 8 = .ok (.aload_n 0, 1) := by decide +kernel
theorem dX8_bulgesMore_9 : decode cX8_bulgesMore 9 = .ok (.iload_n 1, 1) := by decide +kernel
theorem dX8_bulgesMore_10 : decode cX8_bulgesMore 10 = .ok (.invokevirtual 99, 3) := by decide +kernel
theorem dX8_bulgesMore_13 : decode cX8_bulgesMore 13 = .ok (.ifCond .eq 7, 3) := by decide +kernel
theorem dX8_bulgesMore_16 : decode cX8_bulgesMore 16 = .ok (.iconst 1, 1) := by decide +kernel
theorem dX8_bulgesMore_17 : decode cX8_bulgesMore 17 = .ok (.goto 4, 3) := by decide +kernel
theorem dX8_bulgesMore_20 : decode cX8_bulgesMore 20 = .ok (.iconst 0, 1) := by decide +kernel
theorem dX8_bulgesMore_21 : decode cX8_bulgesMore 21 = .ok (.istore_n 3, 1) := by decide +kernel
theorem dX8_bulgesMore_22 : decode cX8_bulgesMore 22 = .ok (.iload_n 3, 1) := by decide +kernel
theorem dX8_bulgesMore_23 : decode cX8_bulgesMore 23 = .ok (.ifCond .eq 19, 3) := by decide +kernel
theorem dX8_bulgesMore_26 : decode cX8_bulgesMore 26 = .ok (.bipush 99, 2) := by decide +kernel
theorem dX8_bulgesMore_28 : decode cX8_bulgesMore 28 = .ok (.aload_n 0, 1) := by decide +kernel
theorem dX8_bulgesMore_29 : decode cX8_bulgesMore 29 = .ok (.getfield 18, 3) := by decide +kernel
theorem dX8_bulgesMore_32 : decode cX8_bulgesMore 32 = .ok (.iload_n 1, 1) := by decide +kernel
theorem dX8_bulgesMore_33 : decode cX8_bulgesMore 33 = .ok (.iaload, 1) := by decide +kernel
theorem dX8_bulgesMore_34 : decode cX8_bulgesMore 34 = .ok (.isub, 1) := by decide +kernel
theorem dX8_bulgesMore_35 : decode cX8_bulgesMore 35 = .ok (.iload_n 2, 1) := by decide +kernel
theorem dX8_bulgesMore_36 : decode cX8_bulgesMore 36 = .ok (.invokestatic 62, 3) := by decide +kernel
theorem dX8_bulgesMore_39 : decode cX8_bulgesMore 39 = .ok (.goto 4, 3) := by decide +kernel
theorem dX8_bulgesMore_42 : decode cX8_bulgesMore 42 = .ok (.iconst 0, 1) := by decide +kernel
theorem dX8_bulgesMore_43 : decode cX8_bulgesMore 43 = .ok (.ireturn, 1) := by decide +kernel
theorem dX8_carryTo_0 : decode cX8_carryTo 0 = .ok (.aload_n 0, 1) := by decide +kernel
theorem dX8_carryTo_1 : decode cX8_carryTo 1 = .ok (.iload_n 1, 1) := by decide +kernel
theorem dX8_carryTo_2 : decode cX8_carryTo 2 = .ok (.invokevirtual 95, 3) := by decide +kernel
theorem dX8_carryTo_5 : decode cX8_carryTo 5 = .ok (.ifCond .eq 5, 3) := by decide +kernel
theorem dX8_carryTo_8 : decode cX8_carryTo 8 = .ok (.iconst 1, 1) := by decide +kernel
theorem dX8_carryTo_9 : decode cX8_carryTo 9 = .ok (.ireturn, 1) := by decide +kernel
theorem dX8_carryTo_10 : decode cX8_carryTo 10 = .ok (.aload_n 0, 1) := by decide +kernel
theorem dX8_carryTo_11 : decode cX8_carryTo 11 = .ok (.getfield 15, 3) := by decide +kernel
theorem dX8_carryTo_14 : decode cX8_carryTo 14 = .ok (.iload_n 1, 1) := by decide +kernel
theorem dX8_carryTo_15 : decode cX8_carryTo 15 = .ok (.iaload, 1) := by decide +kernel
theorem dX8_carryTo_16 : decode cX8_carryTo 16 = .ok (.iload_n 2, 1) := by decide +kernel
theorem dX8_carryTo_17 : decode cX8_carryTo 17 = .ok (.if_icmp .ne 5, 3) := by decide +kernel
theorem dX8_carryTo_20 : decode cX8_carryTo 20 = .ok (.iconst 2, 1) := by decide +kernel
theorem dX8_carryTo_21 : decode cX8_carryTo 21 = .ok (.ireturn, 1) := by decide +kernel
theorem dX8_carryTo_22 : decode cX8_carryTo 22 = .ok (.aload_n 0, 1) := by decide +kernel
theorem dX8_carryTo_23 : decode cX8_carryTo 23 = .ok (.getfield 15, 3) := by decide +kernel
theorem dX8_carryTo_26 : decode cX8_carryTo 26 = .ok (.iload_n 1, 1) := by decide +kernel
theorem dX8_carryTo_27 : decode cX8_carryTo 27 = .ok (.iload_n 2, 1) := by decide +kernel
theorem dX8_carryTo_28 : decode cX8_carryTo 28 = .ok (.iastore, 1) := by decide +kernel
theorem dX8_carryTo_29 : decode cX8_carryTo 29 = .ok (.iconst 0, 1) := by decide +kernel
theorem dX8_carryTo_30 : decode cX8_carryTo 30 = .ok (.ireturn, 1) := by decide +kernel
theorem dX8_daysLeft_0 : decode cX8_daysLeft 0 = .ok (.iconst 0, 1) := by decide +kernel
theorem dX8_daysLeft_1 : decode cX8_daysLeft 1 = .ok (.sipush 400, 3) := by decide +kernel
theorem dX8_daysLeft_4 : decode cX8_daysLeft 4 = .ok (.aload_n 0, 1) := by decide +kernel
theorem dX8_daysLeft_5 : decode cX8_daysLeft 5 = .ok (.getfield 52, 3) := by decide +kernel
theorem dX8_daysLeft_8 : decode cX8_daysLeft 8 = .ok (.isub, 1) := by decide +kernel
theorem dX8_daysLeft_9 : decode cX8_daysLeft 9 = .ok (.invokestatic 68, 3) := by decide +kernel
theorem dX8_daysLeft_12 : decode cX8_daysLeft 12 = .ok (.ireturn, 1) := by decide +kernel
theorem dX8_draw_0 : decode cX8_draw 0 = .ok (.aload_n 0, 1) := by decide +kernel
theorem dX8_draw_1 : decode cX8_draw 1 = .ok (.aload_n 0, 1) := by decide +kernel
theorem dX8_draw_2 : decode cX8_draw 2 = .ok (.getfield 119, 3) := by decide +kernel
theorem dX8_draw_5 : decode cX8_draw 5 = .ok (.ldc 138, 2) := by decide +kernel
theorem dX8_draw_7 : decode cX8_draw 7 = .ok (.imul, 1) := by decide +kernel
theorem dX8_draw_8 : decode cX8_draw 8 = .ok (.sipush 12345, 3) := by decide +kernel
theorem dX8_draw_11 : decode cX8_draw 11 = .ok (.iadd, 1) := by decide +kernel
theorem dX8_draw_12 : decode cX8_draw 12 = .ok (.putfield 119, 3) := by decide +kernel
theorem dX8_draw_15 : decode cX8_draw 15 = .ok (.iload_n 1, 1) := by decide +kernel
theorem dX8_draw_16 : decode cX8_draw 16 = .ok (.ifCond .le 15, 3) := by decide +kernel
theorem dX8_draw_19 : decode cX8_draw 19 = .ok (.aload_n 0, 1) := by decide +kernel
theorem dX8_draw_20 : decode cX8_draw 20 = .ok (.getfield 119, 3) := by decide +kernel
theorem dX8_draw_23 : decode cX8_draw 23 = .ok (.bipush 8, 2) := by decide +kernel
theorem dX8_draw_25 : decode cX8_draw 25 = .ok (.iushr, 1) := by decide +kernel
theorem dX8_draw_26 : decode cX8_draw 26 = .ok (.iload_n 1, 1) := by decide +kernel
theorem dX8_draw_27 : decode cX8_draw 27 = .ok (.irem, 1) := by decide +kernel
theorem dX8_draw_28 : decode cX8_draw 28 = .ok (.goto 4, 3) := by decide +kernel
theorem dX8_draw_32 : decode cX8_draw 32 = .ok (.ireturn, 1) := by decide +kernel
theorem dX8_drawDays_0 : decode cX8_drawDays 0 = .ok (.iload_n 1, 1) := by decide +kernel
theorem dX8_drawDays_1 : decode cX8_drawDays 1 = .ok (.aload_n 0, 1) := by decide +kernel
theorem dX8_drawDays_2 : decode cX8_drawDays 2 = .ok (.invokevirtual 102, 3) := by decide +kernel
theorem dX8_drawDays_5 : decode cX8_drawDays 5 = .ok (.invokestatic 62, 3) := by decide +kernel
theorem dX8_drawDays_8 : decode cX8_drawDays 8 = .ok (.istore_n 3, 1) := by decide +kernel
theorem dX8_drawDays_9 : decode cX8_drawDays 9 = .ok (.aload_n 0, 1) := by decide +kernel
theorem dX8_drawDays_10 : decode cX8_drawDays 10 = .ok (.iload_n 2, 1) := by decide +kernel
theorem dX8_drawDays_11 : decode cX8_drawDays 11 = .ok (.putfield 119, 3) := by decide +kernel
theorem dX8_drawDays_14 : decode cX8_drawDays 14 = .ok (.iconst 0, 1) := by decide +kernel
theorem dX8_drawDays_15 : decode cX8_drawDays 15 = .ok (.istore 4, 2) := by decide +kernel
theorem dX8_drawDays_17 : decode cX8_drawDays 17 = .ok (.iload 4, 2) := by decide +kernel
theorem dX8_drawDays_19 : decode cX8_drawDays 19 = .ok (.iload_n 3, 1) := by decide +kernel
theorem dX8_drawDays_20 : decode cX8_drawDays 20 = .ok (.if_icmp .ge 42, 3) := by decide +kernel
theorem dX8_drawDays_23 : decode cX8_drawDays 23 = .ok (.iconst 0, 1) := by decide +kernel
theorem dX8_drawDays_24 : decode cX8_drawDays 24 = .ok (.istore 5, 2) := by decide +kernel
theorem dX8_drawDays_26 : decode cX8_drawDays 26 = .ok (.iload 5, 2) := by decide +kernel
theorem dX8_drawDays_28 : decode cX8_drawDays 28 = .ok (.aload_n 0, 1) := by decide +kernel
theorem dX8_drawDays_29 : decode cX8_drawDays 29 = .ok (.getfield 42, 3) := by decide +kernel
theorem dX8_drawDays_32 : decode cX8_drawDays 32 = .ok (.getfield 74, 3) := by decide +kernel
theorem dX8_drawDays_35 : decode cX8_drawDays 35 = .ok (.iconst 3, 1) := by decide +kernel
theorem dX8_drawDays_36 : decode cX8_drawDays 36 = .ok (.iaload, 1) := by decide +kernel
theorem dX8_drawDays_37 : decode cX8_drawDays 37 = .ok (.if_icmp .ge 15, 3) := by decide +kernel
theorem dX8_drawDays_40 : decode cX8_drawDays 40 = .ok (.aload_n 0, 1) := by decide +kernel
theorem dX8_drawDays_41 : decode cX8_drawDays 41 = .ok (.iload 5, 2) := by decide +kernel
theorem dX8_drawDays_43 : decode cX8_drawDays 43 = .ok (.invokevirtual 122, 3) := by decide +kernel
theorem dX8_drawDays_46 : decode cX8_drawDays 46 = .ok (.iinc 5 1, 3) := by decide +kernel
theorem dX8_drawDays_49 : decode cX8_drawDays 49 = .ok (.goto (-23), 3) := by decide +kernel
theorem dX8_drawDays_52 : decode cX8_drawDays 52 = .ok (.aload_n 0, 1) := by decide +kernel
theorem dX8_drawDays_53 : decode cX8_drawDays 53 = .ok (.invokevirtual 106, 3) := by decide +kernel
theorem dX8_drawDays_56 : decode cX8_drawDays 56 = .ok (.iinc 4 1, 3) := by decide +kernel
theorem dX8_drawDays_59 : decode cX8_drawDays 59 = .ok (.goto (-42), 3) := by decide +kernel
theorem dX8_drawDays_62 : decode cX8_drawDays 62 = .ok (.iload_n 3, 1) := by decide +kernel
theorem dX8_drawDays_63 : decode cX8_drawDays 63 = .ok (.ireturn, 1) := by decide +kernel
theorem dX8_drawFor_0 : decode cX8_drawFor 0 = .ok (.aload_n 0, 1) := by decide +kernel
theorem dX8_drawFor_1 : decode cX8_drawFor 1 = .ok (.bipush 8, 2) := by decide +kernel
theorem dX8_drawFor_3 : decode cX8_drawFor 3 = .ok (.invokevirtual 125, 3) := by decide +kernel
theorem dX8_drawFor_6 : decode cX8_drawFor 6 = .ok (.istore_n 2, 1) := by decide +kernel
theorem dX8_drawFor_7 : decode cX8_drawFor 7 = .ok (.iload_n 2, 1) := by decide +kernel
theorem dX8_drawFor_8 : decode cX8_drawFor 8 = .ok (.ifCond .ne 12, 3) := by decide +kernel
theorem dX8_drawFor_11 : decode cX8_drawFor 11 = .ok (.aload_n 0, 1) := by decide +kernel
theorem dX8_drawFor_12 : decode cX8_drawFor 12 = .ok (.iload_n 1, 1) := by decide +kernel
theorem dX8_drawFor_13 : decode cX8_drawFor 13 = .ok (.invokevirtual 129, 3) := by decide +kernel
theorem dX8_drawFor_16 : decode cX8_drawFor 16 = .ok (.pop, 1) := by decide +kernel
theorem dX8_drawFor_17 : decode cX8_drawFor 17 = .ok (.goto 78, 3) := by decide +kernel
theorem dX8_drawFor_20 : decode cX8_drawFor 20 = .ok (.iload_n 2, 1) := by decide +kernel
theorem dX8_drawFor_21 : decode cX8_drawFor 21 = .ok (.iconst 1, 1) := by decide +kernel
theorem dX8_drawFor_22 : decode cX8_drawFor 22 = .ok (.if_icmp .ne 37, 3) := by decide +kernel
theorem dX8_drawFor_25 : decode cX8_drawFor 25 = .ok (.aload_n 0, 1) := by decide +kernel
theorem dX8_drawFor_26 : decode cX8_drawFor 26 = .ok (.getfield 42, 3) := by decide +kernel
theorem dX8_drawFor_29 : decode cX8_drawFor 29 = .ok (.getfield 74, 3) := by decide +kernel
theorem dX8_drawFor_32 : decode cX8_drawFor 32 = .ok (.iconst 2, 1) := by decide +kernel
theorem dX8_drawFor_33 : decode cX8_drawFor 33 = .ok (.iaload, 1) := by decide +kernel
theorem dX8_drawFor_34 : decode cX8_drawFor 34 = .ok (.ifCond .le 25, 3) := by decide +kernel
theorem dX8_drawFor_37 : decode cX8_drawFor 37 = .ok (.aload_n 0, 1) := by decide +kernel
theorem dX8_drawFor_38 : decode cX8_drawFor 38 = .ok (.iload_n 1, 1) := by decide +kernel
theorem dX8_drawFor_39 : decode cX8_drawFor 39 = .ok (.aload_n 0, 1) := by decide +kernel
theorem dX8_drawFor_40 : decode cX8_drawFor 40 = .ok (.aload_n 0, 1) := by decide +kernel
theorem dX8_drawFor_41 : decode cX8_drawFor 41 = .ok (.getfield 42, 3) := by decide +kernel
theorem dX8_drawFor_44 : decode cX8_drawFor 44 = .ok (.getfield 74, 3) := by decide +kernel
theorem dX8_drawFor_47 : decode cX8_drawFor 47 = .ok (.iconst 2, 1) := by decide +kernel
theorem dX8_drawFor_48 : decode cX8_drawFor 48 = .ok (.iaload, 1) := by decide +kernel
theorem dX8_drawFor_49 : decode cX8_drawFor 49 = .ok (.invokevirtual 125, 3) := by decide +kernel
theorem dX8_drawFor_52 : decode cX8_drawFor 52 = .ok (.invokevirtual 132, 3) := by decide +kernel
theorem dX8_drawFor_55 : decode cX8_drawFor 55 = .ok (.pop, 1) := by decide +kernel
theorem dX8_drawFor_56 : decode cX8_drawFor 56 = .ok (.goto 39, 3) := by decide +kernel
theorem dX8_drawFor_59 : decode cX8_drawFor 59 = .ok (.iload_n 2, 1) := by decide +kernel
theorem dX8_drawFor_60 : decode cX8_drawFor 60 = .ok (.iconst 2, 1) := by decide +kernel
theorem dX8_drawFor_61 : decode cX8_drawFor 61 = .ok (.if_icmp .ne 34, 3) := by decide +kernel
theorem dX8_drawFor_64 : decode cX8_drawFor 64 = .ok (.aload_n 0, 1) := by decide +kernel
theorem dX8_drawFor_65 : decode cX8_drawFor 65 = .ok (.getfield 42, 3) := by decide +kernel
theorem dX8_drawFor_68 : decode cX8_drawFor 68 = .ok (.getfield 74, 3) := by decide +kernel
theorem dX8_drawFor_71 : decode cX8_drawFor 71 = .ok (.iconst 0, 1) := by decide +kernel
theorem dX8_drawFor_72 : decode cX8_drawFor 72 = .ok (.iaload, 1) := by decide +kernel
theorem dX8_drawFor_73 : decode cX8_drawFor 73 = .ok (.ifCond .le 22, 3) := by decide +kernel
theorem dX8_drawFor_76 : decode cX8_drawFor 76 = .ok (.aload_n 0, 1) := by decide +kernel
theorem dX8_drawFor_77 : decode cX8_drawFor 77 = .ok (.iload_n 1, 1) := by decide +kernel
theorem dX8_drawFor_78 : decode cX8_drawFor 78 = .ok (.aload_n 0, 1) := by decide +kernel
theorem dX8_drawFor_79 : decode cX8_drawFor 79 = .ok (.aload_n 0, 1) := by decide +kernel
theorem dX8_drawFor_80 : decode cX8_drawFor 80 = .ok (.getfield 42, 3) := by decide +kernel
theorem dX8_drawFor_83 : decode cX8_drawFor 83 = .ok (.getfield 74, 3) := by decide +kernel
theorem dX8_drawFor_86 : decode cX8_drawFor 86 = .ok (.iconst 0, 1) := by decide +kernel
theorem dX8_drawFor_87 : decode cX8_drawFor 87 = .ok (.iaload, 1) := by decide +kernel
theorem dX8_drawFor_88 : decode cX8_drawFor 88 = .ok (.invokevirtual 125, 3) := by decide +kernel
theorem dX8_drawFor_91 : decode cX8_drawFor 91 = .ok (.invokevirtual 135, 3) := by decide +kernel
theorem dX8_drawFor_94 : decode cX8_drawFor 94 = .ok (.pop, 1) := by decide +kernel
theorem dX8_drawFor_95 : decode cX8_drawFor 95 = .ok (.return_, 1) := by decide +kernel
theorem dX8_givesTo_0 : decode cX8_givesTo 0 = .ok (.aload_n 0, 1) := by decide +kernel
theorem dX8_givesTo_1 : decode cX8_givesTo 1 = .ok (.getfield 30, 3) := by decide +kernel
theorem dX8_givesTo_4 : decode cX8_givesTo 4 = .ok (.iload_n 1, 1) := by decide +kernel
theorem dX8_givesTo_5 : decode cX8_givesTo 5 = .ok (.iaload, 1) := by decide +kernel
theorem dX8_givesTo_6 : decode cX8_givesTo 6 = .ok (.istore_n 3, 1) := by decide +kernel
theorem dX8_givesTo_7 : decode cX8_givesTo 7 = .ok (.iload_n 3, 1) := by decide +kernel
theorem dX8_givesTo_8 : decode cX8_givesTo 8 = .ok (.iconst (-1), 1) := by decide +kernel
theorem dX8_givesTo_9 : decode cX8_givesTo 9 = .ok (.if_icmp .eq 21, 3) := by decide +kernel
theorem dX8_givesTo_12 : decode cX8_givesTo 12 = .ok (.aload_n 0, 1) := by decide +kernel
theorem dX8_givesTo_13 : decode cX8_givesTo 13 = .ok (.getfield 21, 3) := by decide +kernel
theorem dX8_givesTo_16 : decode cX8_givesTo 16 = .ok (.iload_n 3, 1) := by decide +kernel
theorem dX8_givesTo_17 : decode cX8_givesTo 17 = .ok (.iaload, 1) := by decide +kernel
theorem dX8_givesTo_18 : decode cX8_givesTo 18 = .ok (.ifCond .ne 12, 3) := by decide +kernel
theorem dX8_givesTo_21 : decode cX8_givesTo 21 = .ok (.aload_n 0, 1) := by decide +kernel
theorem dX8_givesTo_22 : decode cX8_givesTo 22 = .ok (.getfield 21, 3) := by decide +kernel
theorem dX8_givesTo_25 : decode cX8_givesTo 25 = .ok (.iload_n 2, 1) := by decide +kernel
theorem dX8_givesTo_26 : decode cX8_givesTo 26 = .ok (.iaload, 1) := by decide +kernel
theorem dX8_givesTo_27 : decode cX8_givesTo 27 = .ok (.ifCond .eq 5, 3) := by decide +kernel
theorem dX8_givesTo_30 : decode cX8_givesTo 30 = .ok (.iconst 0, 1) := by decide +kernel
theorem dX8_givesTo_31 : decode cX8_givesTo 31 = .ok (.ireturn, 1) := by decide +kernel
theorem dX8_givesTo_32 : decode cX8_givesTo 32 = .ok (.iload_n 3, 1) := by decide +kernel
theorem dX8_givesTo_33 : decode cX8_givesTo 33 = .ok (.iload_n 2, 1) := by decide +kernel
theorem dX8_givesTo_34 : decode cX8_givesTo 34 = .ok (.if_icmp .ne 13, 3) := by decide +kernel
theorem dX8_givesTo_37 : decode cX8_givesTo 37 = .ok (.aload_n 0, 1) := by decide +kernel
theorem dX8_givesTo_38 : decode cX8_givesTo 38 = .ok (.getfield 42, 3) := by decide +kernel
theorem dX8_givesTo_41 : decode cX8_givesTo 41 = .ok (.getfield 89, 3) := by decide +kernel
theorem dX8_givesTo_44 : decode cX8_givesTo 44 = .ok (.iload_n 1, 1) := by decide +kernel
theorem dX8_givesTo_45 : decode cX8_givesTo 45 = .ok (.iaload, 1) := by decide +kernel
theorem dX8_givesTo_46 : decode cX8_givesTo 46 = .ok (.ireturn, 1) := by decide +kernel
theorem dX8_givesTo_47 : decode cX8_givesTo 47 = .ok (.aload_n 0, 1) := by decide +kernel
theorem dX8_givesTo_48 : decode cX8_givesTo 48 = .ok (.getfield 15, 3) := by decide +kernel
theorem dX8_givesTo_51 : decode cX8_givesTo 51 = .ok (.iload_n 3, 1) := by decide +kernel
theorem dX8_givesTo_52 : decode cX8_givesTo 52 = .ok (.iaload, 1) := by decide +kernel
theorem dX8_givesTo_53 : decode cX8_givesTo 53 = .ok (.aload_n 0, 1) := by decide +kernel
theorem dX8_givesTo_54 : decode cX8_givesTo 54 = .ok (.getfield 15, 3) := by decide +kernel
theorem dX8_givesTo_57 : decode cX8_givesTo 57 = .ok (.iload_n 2, 1) := by decide +kernel
theorem dX8_givesTo_58 : decode cX8_givesTo 58 = .ok (.iaload, 1) := by decide +kernel
theorem dX8_givesTo_59 : decode cX8_givesTo 59 = .ok (.if_icmp .ne 13, 3) := by decide +kernel
theorem dX8_givesTo_62 : decode cX8_givesTo 62 = .ok (.aload_n 0, 1) := by decide +kernel
theorem dX8_givesTo_63 : decode cX8_givesTo 63 = .ok (.getfield 42, 3) := by decide +kernel
theorem dX8_givesTo_66 : decode cX8_givesTo 66 = .ok (.getfield 92, 3) := by decide +kernel
theorem dX8_givesTo_69 : decode cX8_givesTo 69 = .ok (.goto 4, 3) := by decide +kernel
theorem dX8_givesTo_72 : decode cX8_givesTo 72 = .ok (.iconst 0, 1) := by decide +kernel
theorem dX8_givesTo_73 : decode cX8_givesTo 73 = .ok (.ireturn, 1) := by decide +kernel
theorem dX8_goDay_0 : decode cX8_goDay 0 = .ok (.iconst 0, 1) := by decide +kernel
theorem dX8_goDay_1 : decode cX8_goDay 1 = .ok (.istore_n 1, 1) := by decide +kernel
theorem dX8_goDay_2 : decode cX8_goDay 2 = .ok (.iload_n 1, 1) := by decide +kernel
theorem dX8_goDay_3 : decode cX8_goDay 3 = .ok (.aload_n 0, 1) := by decide +kernel
theorem dX8_goDay_4 : decode cX8_goDay 4 = .ok (.getfield 42, 3) := by decide +kernel
theorem dX8_goDay_7 : decode cX8_goDay 7 = .ok (.getfield 74, 3) := by decide +kernel
theorem dX8_goDay_10 : decode cX8_goDay 10 = .ok (.iconst 2, 1) := by decide +kernel
theorem dX8_goDay_11 : decode cX8_goDay 11 = .ok (.iaload, 1) := by decide +kernel
theorem dX8_goDay_12 : decode cX8_goDay 12 = .ok (.if_icmp .ge 22, 3) := by decide +kernel
theorem dX8_goDay_15 : decode cX8_goDay 15 = .ok (.aload_n 0, 1) := by decide +kernel
theorem dX8_goDay_16 : decode cX8_goDay 16 = .ok (.iload_n 1, 1) := by decide +kernel
theorem dX8_goDay_17 : decode cX8_goDay 17 = .ok (.invokevirtual 109, 3) := by decide +kernel
theorem dX8_goDay_20 : decode cX8_goDay 20 = .ok (.ifCond .eq 8, 3) := by decide +kernel
theorem dX8_goDay_23 : decode cX8_goDay 23 = .ok (.aload_n 0, 1) := by decide +kernel
theorem dX8_goDay_24 : decode cX8_goDay 24 = .ok (.iload_n 1, 1) := by decide +kernel
theorem dX8_goDay_25 : decode cX8_goDay 25 = .ok (.invokevirtual 112, 3) := by decide +kernel
theorem dX8_goDay_28 : decode cX8_goDay 28 = .ok (.iinc 1 1, 3) := by decide +kernel
theorem dX8_goDay_31 : decode cX8_goDay 31 = .ok (.goto (-29), 3) := by decide +kernel
theorem dX8_goDay_34 : decode cX8_goDay 34 = .ok (.aload_n 0, 1) := by decide +kernel
theorem dX8_goDay_35 : decode cX8_goDay 35 = .ok (.dup, 1) := by decide +kernel
theorem dX8_goDay_36 : decode cX8_goDay 36 = .ok (.getfield 52, 3) := by decide +kernel
theorem dX8_goDay_39 : decode cX8_goDay 39 = .ok (.iconst 1, 1) := by decide +kernel
theorem dX8_goDay_40 : decode cX8_goDay 40 = .ok (.iadd, 1) := by decide +kernel
theorem dX8_goDay_41 : decode cX8_goDay 41 = .ok (.putfield 52, 3) := by decide +kernel
theorem dX8_goDay_44 : decode cX8_goDay 44 = .ok (.return_, 1) := by decide +kernel
theorem dX8_goDays_0 : decode cX8_goDays 0 = .ok (.iload_n 1, 1) := by decide +kernel
theorem dX8_goDays_1 : decode cX8_goDays 1 = .ok (.aload_n 0, 1) := by decide +kernel
theorem dX8_goDays_2 : decode cX8_goDays 2 = .ok (.invokevirtual 102, 3) := by decide +kernel
theorem dX8_goDays_5 : decode cX8_goDays 5 = .ok (.invokestatic 62, 3) := by decide +kernel
theorem dX8_goDays_8 : decode cX8_goDays 8 = .ok (.istore_n 2, 1) := by decide +kernel
theorem dX8_goDays_9 : decode cX8_goDays 9 = .ok (.iconst 0, 1) := by decide +kernel
theorem dX8_goDays_10 : decode cX8_goDays 10 = .ok (.istore_n 3, 1) := by decide +kernel
theorem dX8_goDays_11 : decode cX8_goDays 11 = .ok (.iload_n 3, 1) := by decide +kernel
theorem dX8_goDays_12 : decode cX8_goDays 12 = .ok (.iload_n 2, 1) := by decide +kernel
theorem dX8_goDays_13 : decode cX8_goDays 13 = .ok (.if_icmp .ge 13, 3) := by decide +kernel
theorem dX8_goDays_16 : decode cX8_goDays 16 = .ok (.aload_n 0, 1) := by decide +kernel
theorem dX8_goDays_17 : decode cX8_goDays 17 = .ok (.invokevirtual 106, 3) := by decide +kernel
theorem dX8_goDays_20 : decode cX8_goDays 20 = .ok (.iinc 3 1, 3) := by decide +kernel
theorem dX8_goDays_23 : decode cX8_goDays 23 = .ok (.goto (-12), 3) := by decide +kernel
theorem dX8_goDays_26 : decode cX8_goDays 26 = .ok (.iload_n 2, 1) := by decide +kernel
theorem dX8_goDays_27 : decode cX8_goDays 27 = .ok (.ireturn, 1) := by decide +kernel
theorem dX8_grow_0 : decode cX8_grow 0 = .ok (.aload_n 0, 1) := by decide +kernel
theorem dX8_grow_1 : decode cX8_grow 1 = .ok (.iload_n 1, 1) := by decide +kernel
theorem dX8_grow_2 : decode cX8_grow 2 = .ok (.iconst 1, 1) := by decide +kernel
theorem dX8_grow_3 : decode cX8_grow 3 = .ok (.invokevirtual 71, 3) := by decide +kernel
theorem dX8_grow_6 : decode cX8_grow 6 = .ok (.aload_n 0, 1) := by decide +kernel
theorem dX8_grow_7 : decode cX8_grow 7 = .ok (.iload_n 1, 1) := by decide +kernel
theorem dX8_grow_8 : decode cX8_grow 8 = .ok (.iconst 0, 1) := by decide +kernel
theorem dX8_grow_9 : decode cX8_grow 9 = .ok (.invokevirtual 71, 3) := by decide +kernel
theorem dX8_grow_12 : decode cX8_grow 12 = .ok (.if_icmp .eq 13, 3) := by decide +kernel
theorem dX8_grow_15 : decode cX8_grow 15 = .ok (.aload_n 0, 1) := by decide +kernel
theorem dX8_grow_16 : decode cX8_grow 16 = .ok (.getfield 24, 3) := by decide +kernel
theorem dX8_grow_19 : decode cX8_grow 19 = .ok (.iload_n 1, 1) := by decide +kernel
theorem dX8_grow_20 : decode cX8_grow 20 = .ok (.dup2, 1) := by decide +kernel
theorem dX8_grow_21 : decode cX8_grow 21 = .ok (.iaload, 1) := by decide +kernel
theorem dX8_grow_22 : decode cX8_grow 22 = .ok (.iconst 1, 1) := by decide +kernel
theorem dX8_grow_23 : decode cX8_grow 23 = .ok (.iadd, 1) := by decide +kernel
theorem dX8_grow_24 : decode cX8_grow 24 = .ok (.iastore, 1) := by decide +kernel
theorem dX8_grow_25 : decode cX8_grow 25 = .ok (.iconst 0, 1) := by decide +kernel
theorem dX8_grow_26 : decode cX8_grow 26 = .ok (.istore_n 2, 1) := by decide +kernel
theorem dX8_grow_27 : decode cX8_grow 27 = .ok (.iload_n 2, 1) := by decide +kernel
theorem dX8_grow_28 : decode cX8_grow 28 = .ok (.aload_n 0, 1) := by decide +kernel
theorem dX8_grow_29 : decode cX8_grow 29 = .ok (.getfield 42, 3) := by decide +kernel
theorem dX8_grow_32 : decode cX8_grow 32 = .ok (.getfield 74, 3) := by decide +kernel
theorem dX8_grow_35 : decode cX8_grow 35 = .ok (.iconst 0, 1) := by decide +kernel
theorem dX8_grow_36 : decode cX8_grow 36 = .ok (.iaload, 1) := by decide +kernel
theorem dX8_grow_37 : decode cX8_grow 37 = .ok (.if_icmp .ge 27, 3) := by decide +kernel
theorem dX8_grow_40 : decode cX8_grow 40 = .ok (.aload_n 0, 1) := by decide +kernel
theorem dX8_grow_41 : decode cX8_grow 41 = .ok (.getfield 9, 3) := by decide +kernel
theorem dX8_grow_44 : decode cX8_grow 44 = .ok (.iload_n 1, 1) := by decide +kernel
theorem dX8_grow_45 : decode cX8_grow 45 = .ok (.bipush 6, 2) := by decide +kernel
theorem dX8_grow_47 : decode cX8_grow 47 = .ok (.imul, 1) := by decide +kernel
theorem dX8_grow_48 : decode cX8_grow 48 = .ok (.iload_n 2, 1) := by decide +kernel
theorem dX8_grow_49 : decode cX8_grow 49 = .ok (.iadd, 1) := by decide +kernel
theorem dX8_grow_50 : decode cX8_grow 50 = .ok (.aload_n 0, 1) := by decide +kernel
theorem dX8_grow_51 : decode cX8_grow 51 = .ok (.iload_n 1, 1) := by decide +kernel
theorem dX8_grow_52 : decode cX8_grow 52 = .ok (.iload_n 2, 1) := by decide +kernel
theorem dX8_grow_53 : decode cX8_grow 53 = .ok (.iconst 1, 1) := by decide +kernel
theorem dX8_grow_54 : decode cX8_grow 54 = .ok (.invokevirtual 79, 3) := by decide +kernel
theorem dX8_grow_57 : decode cX8_grow 57 = .ok (.iastore, 1) := by decide +kernel
theorem dX8_grow_58 : decode cX8_grow 58 = .ok (.iinc 2 1, 3) := by decide +kernel
theorem dX8_grow_61 : decode cX8_grow 61 = .ok (.goto (-34), 3) := by decide +kernel
theorem dX8_grow_64 : decode cX8_grow 64 = .ok (.aload_n 0, 1) := by decide +kernel
theorem dX8_grow_65 : decode cX8_grow 65 = .ok (.getfield 18, 3) := by decide +kernel
theorem dX8_grow_68 : decode cX8_grow 68 = .ok (.iload_n 1, 1) := by decide +kernel
theorem dX8_grow_69 : decode cX8_grow 69 = .ok (.dup2, 1) := by decide +kernel
theorem dX8_grow_70 : decode cX8_grow 70 = .ok (.iaload, 1) := by decide +kernel
theorem dX8_grow_71 : decode cX8_grow 71 = .ok (.aload_n 0, 1) := by decide +kernel
theorem dX8_grow_72 : decode cX8_grow 72 = .ok (.iload_n 1, 1) := by decide +kernel
theorem dX8_grow_73 : decode cX8_grow 73 = .ok (.iconst 1, 1) := by decide +kernel
theorem dX8_grow_74 : decode cX8_grow 74 = .ok (.invokevirtual 116, 3) := by decide +kernel
theorem dX8_grow_77 : decode cX8_grow 77 = .ok (.iadd, 1) := by decide +kernel
theorem dX8_grow_78 : decode cX8_grow 78 = .ok (.iastore, 1) := by decide +kernel
theorem dX8_grow_79 : decode cX8_grow 79 = .ok (.return_, 1) := by decide +kernel
theorem dX8_guessAt_0 : decode cX8_guessAt 0 = .ok (.aload_n 0, 1) := by decide +kernel
theorem dX8_guessAt_1 : decode cX8_guessAt 1 = .ok (.getfield 30, 3) := by decide +kernel
theorem dX8_guessAt_4 : decode cX8_guessAt 4 = .ok (.iload_n 1, 1) := by decide +kernel
theorem dX8_guessAt_5 : decode cX8_guessAt 5 = .ok (.iaload, 1) := by decide +kernel
theorem dX8_guessAt_6 : decode cX8_guessAt 6 = .ok (.istore_n 3, 1) := by decide +kernel
theorem dX8_guessAt_7 : decode cX8_guessAt 7 = .ok (.iload_n 3, 1) := by decide +kernel
theorem dX8_guessAt_8 : decode cX8_guessAt 8 = .ok (.iconst (-1), 1) := by decide +kernel
theorem dX8_guessAt_9 : decode cX8_guessAt 9 = .ok (.if_icmp .ne 5, 3) := by decide +kernel
theorem dX8_guessAt_12 : decode cX8_guessAt 12 = .ok (.iconst 0, 1) := by decide +kernel
theorem dX8_guessAt_13 : decode cX8_guessAt 13 = .ok (.ireturn, 1) := by decide +kernel
theorem dX8_guessAt_14 : decode cX8_guessAt 14 = .ok (.aload_n 0, 1) := by decide +kernel
theorem dX8_guessAt_15 : decode cX8_guessAt 15 = .ok (.iload_n 3, 1) := by decide +kernel
theorem dX8_guessAt_16 : decode cX8_guessAt 16 = .ok (.invokevirtual 139, 3) := by decide +kernel
theorem dX8_guessAt_19 : decode cX8_guessAt 19 = .ok (.iload_n 2, 1) := by decide +kernel
theorem dX8_guessAt_20 : decode cX8_guessAt 20 = .ok (.if_icmp .ne 21, 3) := by decide +kernel
theorem dX8_guessAt_23 : decode cX8_guessAt 23 = .ok (.aload_n 0, 1) := by decide +kernel
theorem dX8_guessAt_24 : decode cX8_guessAt 24 = .ok (.iload_n 3, 1) := by decide +kernel
theorem dX8_guessAt_25 : decode cX8_guessAt 25 = .ok (.iload_n 2, 1) := by decide +kernel
theorem dX8_guessAt_26 : decode cX8_guessAt 26 = .ok (.invokevirtual 142, 3) := by decide +kernel
theorem dX8_guessAt_29 : decode cX8_guessAt 29 = .ok (.aload_n 0, 1) := by decide +kernel
theorem dX8_guessAt_30 : decode cX8_guessAt 30 = .ok (.getfield 33, 3) := by decide +kernel
theorem dX8_guessAt_33 : decode cX8_guessAt 33 = .ok (.iload_n 1, 1) := by decide +kernel
theorem dX8_guessAt_34 : decode cX8_guessAt 34 = .ok (.dup2, 1) := by decide +kernel
theorem dX8_guessAt_35 : decode cX8_guessAt 35 = .ok (.iaload, 1) := by decide +kernel
theorem dX8_guessAt_36 : decode cX8_guessAt 36 = .ok (.iconst 1, 1) := by decide +kernel
theorem dX8_guessAt_37 : decode cX8_guessAt 37 = .ok (.iadd, 1) := by decide +kernel
theorem dX8_guessAt_38 : decode cX8_guessAt 38 = .ok (.iastore, 1) := by decide +kernel
theorem dX8_guessAt_39 : decode cX8_guessAt 39 = .ok (.iconst 1, 1) := by decide +kernel
theorem dX8_guessAt_40 : decode cX8_guessAt 40 = .ok (.ireturn, 1) := by decide +kernel
theorem dX8_guessAt_41 : decode cX8_guessAt 41 = .ok (.aload_n 0, 1) := by decide +kernel
theorem dX8_guessAt_42 : decode cX8_guessAt 42 = .ok (.iload_n 3, 1) := by decide +kernel
theorem dX8_guessAt_43 : decode cX8_guessAt 43 = .ok (.iload_n 2, 1) := by decide +kernel
theorem dX8_guessAt_44 : decode cX8_guessAt 44 = .ok (.aload_n 0, 1) := by decide +kernel
theorem dX8_guessAt_45 : decode cX8_guessAt 45 = .ok (.iload_n 3, 1) := by decide +kernel
theorem dX8_guessAt_46 : decode cX8_guessAt 46 = .ok (.iload_n 2, 1) := by decide +kernel
theorem dX8_guessAt_47 : decode cX8_guessAt 47 = .ok (.invokevirtual 146, 3) := by decide +kernel
theorem dX8_guessAt_50 : decode cX8_guessAt 50 = .ok (.iconst 1, 1) := by decide +kernel
theorem dX8_guessAt_51 : decode cX8_guessAt 51 = .ok (.iadd, 1) := by decide +kernel
theorem dX8_guessAt_52 : decode cX8_guessAt 52 = .ok (.invokevirtual 149, 3) := by decide +kernel
theorem dX8_guessAt_55 : decode cX8_guessAt 55 = .ok (.aload_n 0, 1) := by decide +kernel
theorem dX8_guessAt_56 : decode cX8_guessAt 56 = .ok (.getfield 36, 3) := by decide +kernel
theorem dX8_guessAt_59 : decode cX8_guessAt 59 = .ok (.iload_n 1, 1) := by decide +kernel
theorem dX8_guessAt_60 : decode cX8_guessAt 60 = .ok (.dup2, 1) := by decide +kernel
theorem dX8_guessAt_61 : decode cX8_guessAt 61 = .ok (.iaload, 1) := by decide +kernel
theorem dX8_guessAt_62 : decode cX8_guessAt 62 = .ok (.iconst 1, 1) := by decide +kernel
theorem dX8_guessAt_63 : decode cX8_guessAt 63 = .ok (.iadd, 1) := by decide +kernel
theorem dX8_guessAt_64 : decode cX8_guessAt 64 = .ok (.iastore, 1) := by decide +kernel
theorem dX8_guessAt_65 : decode cX8_guessAt 65 = .ok (.iconst 0, 1) := by decide +kernel
theorem dX8_guessAt_66 : decode cX8_guessAt 66 = .ok (.ireturn, 1) := by decide +kernel
theorem dX8_has_0 : decode cX8_has 0 = .ok (.aload_n 0, 1) := by decide +kernel
theorem dX8_has_1 : decode cX8_has 1 = .ok (.getfield 9, 3) := by decide +kernel
theorem dX8_has_4 : decode cX8_has 4 = .ok (.iload_n 1, 1) := by decide +kernel
theorem dX8_has_5 : decode cX8_has 5 = .ok (.bipush 6, 2) := by decide +kernel
theorem dX8_has_7 : decode cX8_has 7 = .ok (.imul, 1) := by decide +kernel
theorem dX8_has_8 : decode cX8_has 8 = .ok (.iload_n 2, 1) := by decide +kernel
theorem dX8_has_9 : decode cX8_has 9 = .ok (.iadd, 1) := by decide +kernel
theorem dX8_has_10 : decode cX8_has 10 = .ok (.iaload, 1) := by decide +kernel
theorem dX8_has_11 : decode cX8_has 11 = .ok (.ireturn, 1) := by decide +kernel
theorem dX8_isNow_0 : decode cX8_isNow 0 = .ok (.aload_n 0, 1) := by decide +kernel
theorem dX8_isNow_1 : decode cX8_isNow 1 = .ok (.iload_n 1, 1) := by decide +kernel
theorem dX8_isNow_2 : decode cX8_isNow 2 = .ok (.iconst 0, 1) := by decide +kernel
theorem dX8_isNow_3 : decode cX8_isNow 3 = .ok (.invokevirtual 71, 3) := by decide +kernel
theorem dX8_isNow_6 : decode cX8_isNow 6 = .ok (.ireturn, 1) := by decide +kernel
theorem dX8_isOpen_0 : decode cX8_isOpen 0 = .ok (.aload_n 0, 1) := by decide +kernel
theorem dX8_isOpen_1 : decode cX8_isOpen 1 = .ok (.getfield 21, 3) := by decide +kernel
theorem dX8_isOpen_4 : decode cX8_isOpen 4 = .ok (.iload_n 1, 1) := by decide +kernel
theorem dX8_isOpen_5 : decode cX8_isOpen 5 = .ok (.iaload, 1) := by decide +kernel
theorem dX8_isOpen_6 : decode cX8_isOpen 6 = .ok (.ifCond .eq 7, 3) := by decide +kernel
theorem dX8_isOpen_9 : decode cX8_isOpen 9 = .ok (.iconst 1, 1) := by decide +kernel
theorem dX8_isOpen_10 : decode cX8_isOpen 10 = .ok (.goto 4, 3) := by decide +kernel
theorem dX8_isOpen_13 : decode cX8_isOpen 13 = .ok (.iconst 0, 1) := by decide +kernel
theorem dX8_isOpen_14 : decode cX8_isOpen 14 = .ok (.ireturn, 1) := by decide +kernel
theorem dX8_lessBy_0 : decode cX8_lessBy 0 = .ok (.aload_n 0, 1) := by decide +kernel
theorem dX8_lessBy_1 : decode cX8_lessBy 1 = .ok (.iload_n 1, 1) := by decide +kernel
theorem dX8_lessBy_2 : decode cX8_lessBy 2 = .ok (.iload_n 2, 1) := by decide +kernel
theorem dX8_lessBy_3 : decode cX8_lessBy 3 = .ok (.aload_n 0, 1) := by decide +kernel
theorem dX8_lessBy_4 : decode cX8_lessBy 4 = .ok (.iload_n 1, 1) := by decide +kernel
theorem dX8_lessBy_5 : decode cX8_lessBy 5 = .ok (.iload_n 2, 1) := by decide +kernel
theorem dX8_lessBy_6 : decode cX8_lessBy 6 = .ok (.invokevirtual 146, 3) := by decide +kernel
theorem dX8_lessBy_9 : decode cX8_lessBy 9 = .ok (.aload_n 0, 1) := by decide +kernel
theorem dX8_lessBy_10 : decode cX8_lessBy 10 = .ok (.getfield 42, 3) := by decide +kernel
theorem dX8_lessBy_13 : decode cX8_lessBy 13 = .ok (.getfield 153, 3) := by decide +kernel
theorem dX8_lessBy_16 : decode cX8_lessBy 16 = .ok (.isub, 1) := by decide +kernel
theorem dX8_lessBy_17 : decode cX8_lessBy 17 = .ok (.invokevirtual 149, 3) := by decide +kernel
theorem dX8_lessBy_20 : decode cX8_lessBy 20 = .ok (.return_, 1) := by decide +kernel
theorem dX8_openUp_0 : decode cX8_openUp 0 = .ok (.aload_n 0, 1) := by decide +kernel
theorem dX8_openUp_1 : decode cX8_openUp 1 = .ok (.iload_n 1, 1) := by decide +kernel
theorem dX8_openUp_2 : decode cX8_openUp 2 = .ok (.invokevirtual 95, 3) := by decide +kernel
theorem dX8_openUp_5 : decode cX8_openUp 5 = .ok (.ifCond .eq 5, 3) := by decide +kernel
theorem dX8_openUp_8 : decode cX8_openUp 8 = .ok (.iconst 1, 1) := by decide +kernel
theorem dX8_openUp_9 : decode cX8_openUp 9 = .ok (.ireturn, 1) := by decide +kernel
theorem dX8_openUp_10 : decode cX8_openUp 10 = .ok (.aload_n 0, 1) := by decide +kernel
theorem dX8_openUp_11 : decode cX8_openUp 11 = .ok (.getfield 21, 3) := by decide +kernel
theorem dX8_openUp_14 : decode cX8_openUp 14 = .ok (.iload_n 1, 1) := by decide +kernel
theorem dX8_openUp_15 : decode cX8_openUp 15 = .ok (.iconst 1, 1) := by decide +kernel
theorem dX8_openUp_16 : decode cX8_openUp 16 = .ok (.iastore, 1) := by decide +kernel
theorem dX8_openUp_17 : decode cX8_openUp 17 = .ok (.iconst 0, 1) := by decide +kernel
theorem dX8_openUp_18 : decode cX8_openUp 18 = .ok (.ireturn, 1) := by decide +kernel
theorem dX8_put_0 : decode cX8_put 0 = .ok (.aload_n 0, 1) := by decide +kernel
theorem dX8_put_1 : decode cX8_put 1 = .ok (.getfield 9, 3) := by decide +kernel
theorem dX8_put_4 : decode cX8_put 4 = .ok (.iload_n 1, 1) := by decide +kernel
theorem dX8_put_5 : decode cX8_put 5 = .ok (.bipush 6, 2) := by decide +kernel
theorem dX8_put_7 : decode cX8_put 7 = .ok (.imul, 1) := by decide +kernel
theorem dX8_put_8 : decode cX8_put 8 = .ok (.iload_n 2, 1) := by decide +kernel
theorem dX8_put_9 : decode cX8_put 9 = .ok (.iadd, 1) := by decide +kernel
theorem dX8_put_10 : decode cX8_put 10 = .ok (.iconst 0, 1) := by decide +kernel
theorem dX8_put_11 : decode cX8_put 11 = .ok (.bipush 99, 2) := by decide +kernel
theorem dX8_put_13 : decode cX8_put 13 = .ok (.iload_n 3, 1) := by decide +kernel
theorem dX8_put_14 : decode cX8_put 14 = .ok (.invokestatic 62, 3) := by decide +kernel
theorem dX8_put_17 : decode cX8_put 17 = .ok (.invokestatic 68, 3) := by decide +kernel
theorem dX8_put_20 : decode cX8_put 20 = .ok (.iastore, 1) := by decide +kernel
theorem dX8_put_21 : decode cX8_put 21 = .ok (.return_, 1) := by decide +kernel
theorem dX8_reckonGain_0 : decode cX8_reckonGain 0 = .ok (.aload_n 0, 1) := by decide +kernel
theorem dX8_reckonGain_1 : decode cX8_reckonGain 1 = .ok (.getfield 39, 3) := by decide +kernel
theorem dX8_reckonGain_4 : decode cX8_reckonGain 4 = .ok (.iconst 0, 1) := by decide +kernel
theorem dX8_reckonGain_5 : decode cX8_reckonGain 5 = .ok (.invokestatic 46, 3) := by decide +kernel
theorem dX8_reckonGain_8 : decode cX8_reckonGain 8 = .ok (.iconst 0, 1) := by decide +kernel
theorem dX8_reckonGain_9 : decode cX8_reckonGain 9 = .ok (.istore_n 2, 1) := by decide +kernel
theorem dX8_reckonGain_10 : decode cX8_reckonGain 10 = .ok (.iconst 0, 1) := by decide +kernel
theorem dX8_reckonGain_11 : decode cX8_reckonGain 11 = .ok (.istore_n 3, 1) := by decide +kernel
theorem dX8_reckonGain_12 : decode cX8_reckonGain 12 = .ok (.iload_n 3, 1) := by decide +kernel
theorem dX8_reckonGain_13 : decode cX8_reckonGain 13 = .ok (.aload_n 0, 1) := by decide +kernel
theorem dX8_reckonGain_14 : decode cX8_reckonGain 14 = .ok (.getfield 42, 3) := by decide +kernel
theorem dX8_reckonGain_17 : decode cX8_reckonGain 17 = .ok (.getfield 74, 3) := by decide +kernel
theorem dX8_reckonGain_20 : decode cX8_reckonGain 20 = .ok (.iconst 3, 1) := by decide +kernel
theorem dX8_reckonGain_21 : decode cX8_reckonGain 21 = .ok (.iaload, 1) := by decide +kernel
theorem dX8_reckonGain_22 : decode cX8_reckonGain 22 = .ok (.if_icmp .ge 40, 3) := by decide +kernel
theorem dX8_reckonGain_25 : decode cX8_reckonGain 25 = .ok (.aload_n 0, 1) := by decide +kernel
theorem dX8_reckonGain_26 : decode cX8_reckonGain 26 = .ok (.iload_n 3, 1) := by decide +kernel
theorem dX8_reckonGain_27 : decode cX8_reckonGain 27 = .ok (.iload_n 1, 1) := by decide +kernel
theorem dX8_reckonGain_28 : decode cX8_reckonGain 28 = .ok (.invokevirtual 86, 3) := by decide +kernel
theorem dX8_reckonGain_31 : decode cX8_reckonGain 31 = .ok (.istore 4, 2) := by decide +kernel
theorem dX8_reckonGain_33 : decode cX8_reckonGain 33 = .ok (.iload 4, 2) := by decide +kernel
theorem dX8_reckonGain_35 : decode cX8_reckonGain 35 = .ok (.ifCond .le 21, 3) := by decide +kernel
theorem dX8_reckonGain_38 : decode cX8_reckonGain 38 = .ok (.aload_n 0, 1) := by decide +kernel
theorem dX8_reckonGain_39 : decode cX8_reckonGain 39 = .ok (.getfield 39, 3) := by decide +kernel
theorem dX8_reckonGain_42 : decode cX8_reckonGain 42 = .ok (.aload_n 0, 1) := by decide +kernel
theorem dX8_reckonGain_43 : decode cX8_reckonGain 43 = .ok (.getfield 27, 3) := by decide +kernel
theorem dX8_reckonGain_46 : decode cX8_reckonGain 46 = .ok (.iload_n 3, 1) := by decide +kernel
theorem dX8_reckonGain_47 : decode cX8_reckonGain 47 = .ok (.iaload, 1) := by decide +kernel
theorem dX8_reckonGain_48 : decode cX8_reckonGain 48 = .ok (.dup2, 1) := by decide +kernel
theorem dX8_reckonGain_49 : decode cX8_reckonGain 49 = .ok (.iaload, 1) := by decide +kernel
theorem dX8_reckonGain_50 : decode cX8_reckonGain 50 = .ok (.iload 4, 2) := by decide +kernel
theorem dX8_reckonGain_52 : decode cX8_reckonGain 52 = .ok (.iadd, 1) := by decide +kernel
theorem dX8_reckonGain_53 : decode cX8_reckonGain 53 = .ok (.iastore, 1) := by decide +kernel
theorem dX8_reckonGain_54 : decode cX8_reckonGain 54 = .ok (.iconst 1, 1) := by decide +kernel
theorem dX8_reckonGain_55 : decode cX8_reckonGain 55 = .ok (.istore_n 2, 1) := by decide +kernel
theorem dX8_reckonGain_56 : decode cX8_reckonGain 56 = .ok (.iinc 3 1, 3) := by decide +kernel
theorem dX8_reckonGain_59 : decode cX8_reckonGain 59 = .ok (.goto (-47), 3) := by decide +kernel
theorem dX8_reckonGain_62 : decode cX8_reckonGain 62 = .ok (.iload_n 2, 1) := by decide +kernel
theorem dX8_reckonGain_63 : decode cX8_reckonGain 63 = .ok (.ireturn, 1) := by decide +kernel
theorem dX8_seatJust_0 : decode cX8_seatJust 0 = .ok (.iconst 0, 1) := by decide +kernel
theorem dX8_seatJust_1 : decode cX8_seatJust 1 = .ok (.istore 4, 2) := by decide +kernel
theorem dX8_seatJust_3 : decode cX8_seatJust 3 = .ok (.iload 4, 2) := by decide +kernel
theorem dX8_seatJust_5 : decode cX8_seatJust 5 = .ok (.aload_n 0, 1) := by decide +kernel
theorem dX8_seatJust_6 : decode cX8_seatJust 6 = .ok (.getfield 42, 3) := by decide +kernel
theorem dX8_seatJust_9 : decode cX8_seatJust 9 = .ok (.getfield 74, 3) := by decide +kernel
theorem dX8_seatJust_12 : decode cX8_seatJust 12 = .ok (.iconst 3, 1) := by decide +kernel
theorem dX8_seatJust_13 : decode cX8_seatJust 13 = .ok (.iaload, 1) := by decide +kernel
theorem dX8_seatJust_14 : decode cX8_seatJust 14 = .ok (.if_icmp .ge 58, 3) := by decide +kernel
theorem dX8_seatJust_17 : decode cX8_seatJust 17 = .ok (.iload_n 1, 1) := by decide +kernel
theorem dX8_seatJust_18 : decode cX8_seatJust 18 = .ok (.iload 4, 2) := by decide +kernel
theorem dX8_seatJust_20 : decode cX8_seatJust 20 = .ok (.ishr, 1) := by decide +kernel
theorem dX8_seatJust_21 : decode cX8_seatJust 21 = .ok (.iconst 1, 1) := by decide +kernel
theorem dX8_seatJust_22 : decode cX8_seatJust 22 = .ok (.iand, 1) := by decide +kernel
theorem dX8_seatJust_23 : decode cX8_seatJust 23 = .ok (.ifCond .eq 14, 3) := by decide +kernel
theorem dX8_seatJust_26 : decode cX8_seatJust 26 = .ok (.aload_n 0, 1) := by decide +kernel
theorem dX8_seatJust_27 : decode cX8_seatJust 27 = .ok (.getfield 30, 3) := by decide +kernel
theorem dX8_seatJust_30 : decode cX8_seatJust 30 = .ok (.iload 4, 2) := by decide +kernel
theorem dX8_seatJust_32 : decode cX8_seatJust 32 = .ok (.iload_n 2, 1) := by decide +kernel
theorem dX8_seatJust_33 : decode cX8_seatJust 33 = .ok (.iastore, 1) := by decide +kernel
theorem dX8_seatJust_34 : decode cX8_seatJust 34 = .ok (.goto 32, 3) := by decide +kernel
theorem dX8_seatJust_37 : decode cX8_seatJust 37 = .ok (.aload_n 0, 1) := by decide +kernel
theorem dX8_seatJust_38 : decode cX8_seatJust 38 = .ok (.getfield 30, 3) := by decide +kernel
theorem dX8_seatJust_41 : decode cX8_seatJust 41 = .ok (.iload 4, 2) := by decide +kernel
theorem dX8_seatJust_43 : decode cX8_seatJust 43 = .ok (.aload_n 3, 1) := by decide +kernel
theorem dX8_seatJust_44 : decode cX8_seatJust 44 = .ok (.getfield 30, 3) := by decide +kernel
theorem dX8_seatJust_47 : decode cX8_seatJust 47 = .ok (.iload 4, 2) := by decide +kernel
theorem dX8_seatJust_49 : decode cX8_seatJust 49 = .ok (.iaload, 1) := by decide +kernel
theorem dX8_seatJust_50 : decode cX8_seatJust 50 = .ok (.iload_n 2, 1) := by decide +kernel
theorem dX8_seatJust_51 : decode cX8_seatJust 51 = .ok (.if_icmp .ne 7, 3) := by decide +kernel
theorem dX8_seatJust_54 : decode cX8_seatJust 54 = .ok (.iconst (-1), 1) := by decide +kernel
theorem dX8_seatJust_55 : decode cX8_seatJust 55 = .ok (.goto 10, 3) := by decide +kernel
theorem dX8_seatJust_58 : decode cX8_seatJust 58 = .ok (.aload_n 3, 1) := by decide +kernel
theorem dX8_seatJust_59 : decode cX8_seatJust 59 = .ok (.getfield 30, 3) := by decide +kernel
theorem dX8_seatJust_62 : decode cX8_seatJust 62 = .ok (.iload 4, 2) := by decide +kernel
theorem dX8_seatJust_64 : decode cX8_seatJust 64 = .ok (.iaload, 1) := by decide +kernel
theorem dX8_seatJust_65 : decode cX8_seatJust 65 = .ok (.iastore, 1) := by decide +kernel
theorem dX8_seatJust_66 : decode cX8_seatJust 66 = .ok (.iinc 4 1, 3) := by decide +kernel
theorem dX8_seatJust_69 : decode cX8_seatJust 69 = .ok (.goto (-66), 3) := by decide +kernel
theorem dX8_seatJust_72 : decode cX8_seatJust 72 = .ok (.return_, 1) := by decide +kernel
theorem dX8_settle_0 : decode cX8_settle 0 = .ok (.aload_n 0, 1) := by decide +kernel
theorem dX8_settle_1 : decode cX8_settle 1 = .ok (.getfield 30, 3) := by decide +kernel
theorem dX8_settle_4 : decode cX8_settle 4 = .ok (.iload_n 1, 1) := by decide +kernel
theorem dX8_settle_5 : decode cX8_settle 5 = .ok (.iaload, 1) := by decide +kernel
theorem dX8_settle_6 : decode cX8_settle 6 = .ok (.istore_n 2, 1) := by decide +kernel
theorem dX8_settle_7 : decode cX8_settle 7 = .ok (.iload_n 2, 1) := by decide +kernel
theorem dX8_settle_8 : decode cX8_settle 8 = .ok (.istore_n 3, 1) := by decide +kernel
theorem dX8_settle_9 : decode cX8_settle 9 = .ok (.iconst (-1), 1) := by decide +kernel
theorem dX8_settle_10 : decode cX8_settle 10 = .ok (.istore 4, 2) := by decide +kernel
theorem dX8_settle_12 : decode cX8_settle 12 = .ok (.iconst 0, 1) := by decide +kernel
theorem dX8_settle_13 : decode cX8_settle 13 = .ok (.istore 5, 2) := by decide +kernel
theorem dX8_settle_15 : decode cX8_settle 15 = .ok (.iload 5, 2) := by decide +kernel
theorem dX8_settle_17 : decode cX8_settle 17 = .ok (.aload_n 0, 1) := by decide +kernel
theorem dX8_settle_18 : decode cX8_settle 18 = .ok (.getfield 42, 3) := by decide +kernel
theorem dX8_settle_21 : decode cX8_settle 21 = .ok (.getfield 74, 3) := by decide +kernel
theorem dX8_settle_24 : decode cX8_settle 24 = .ok (.iconst 2, 1) := by decide +kernel
theorem dX8_settle_25 : decode cX8_settle 25 = .ok (.iaload, 1) := by decide +kernel
theorem dX8_settle_26 : decode cX8_settle 26 = .ok (.if_icmp .ge 112, 3) := by decide +kernel
theorem dX8_settle_29 : decode cX8_settle 29 = .ok (.aload_n 0, 1) := by decide +kernel
theorem dX8_settle_30 : decode cX8_settle 30 = .ok (.iload 5, 2) := by decide +kernel
theorem dX8_settle_32 : decode cX8_settle 32 = .ok (.invokevirtual 95, 3) := by decide +kernel
theorem dX8_settle_35 : decode cX8_settle 35 = .ok (.ifCond .eq 6, 3) := by decide +kernel
theorem dX8_settle_38 : decode cX8_settle 38 = .ok (.goto 94, 3) := by decide +kernel
theorem dX8_settle_41 : decode cX8_settle 41 = .ok (.aload_n 0, 1) := by decide +kernel
theorem dX8_settle_42 : decode cX8_settle 42 = .ok (.getfield 30, 3) := by decide +kernel
theorem dX8_settle_45 : decode cX8_settle 45 = .ok (.iload_n 1, 1) := by decide +kernel
theorem dX8_settle_46 : decode cX8_settle 46 = .ok (.iload 5, 2) := by decide +kernel
theorem dX8_settle_48 : decode cX8_settle 48 = .ok (.iastore, 1) := by decide +kernel
theorem dX8_settle_49 : decode cX8_settle 49 = .ok (.aload_n 0, 1) := by decide +kernel
theorem dX8_settle_50 : decode cX8_settle 50 = .ok (.iload 5, 2) := by decide +kernel
theorem dX8_settle_52 : decode cX8_settle 52 = .ok (.invokevirtual 109, 3) := by decide +kernel
theorem dX8_settle_55 : decode cX8_settle 55 = .ok (.pop, 1) := by decide +kernel
theorem dX8_settle_56 : decode cX8_settle 56 = .ok (.aload_n 0, 1) := by decide +kernel
theorem dX8_settle_57 : decode cX8_settle 57 = .ok (.iload 5, 2) := by decide +kernel
theorem dX8_settle_59 : decode cX8_settle 59 = .ok (.bipush 7, 2) := by decide +kernel
theorem dX8_settle_61 : decode cX8_settle 61 = .ok (.invokevirtual 71, 3) := by decide +kernel
theorem dX8_settle_64 : decode cX8_settle 64 = .ok (.aload_n 0, 1) := by decide +kernel
theorem dX8_settle_65 : decode cX8_settle 65 = .ok (.getfield 27, 3) := by decide +kernel
theorem dX8_settle_68 : decode cX8_settle 68 = .ok (.iload_n 1, 1) := by decide +kernel
theorem dX8_settle_69 : decode cX8_settle 69 = .ok (.iaload, 1) := by decide +kernel
theorem dX8_settle_70 : decode cX8_settle 70 = .ok (.if_icmp .ne 7, 3) := by decide +kernel
theorem dX8_settle_73 : decode cX8_settle 73 = .ok (.iconst 1, 1) := by decide +kernel
theorem dX8_settle_74 : decode cX8_settle 74 = .ok (.goto 4, 3) := by decide +kernel
theorem dX8_settle_77 : decode cX8_settle 77 = .ok (.iconst 0, 1) := by decide +kernel
theorem dX8_settle_78 : decode cX8_settle 78 = .ok (.istore 6, 2) := by decide +kernel
theorem dX8_settle_80 : decode cX8_settle 80 = .ok (.iload 6, 2) := by decide +kernel
theorem dX8_settle_82 : decode cX8_settle 82 = .ok (.ifCond .eq 20, 3) := by decide +kernel
theorem dX8_settle_85 : decode cX8_settle 85 = .ok (.aload_n 0, 1) := by decide +kernel
theorem dX8_settle_86 : decode cX8_settle 86 = .ok (.iload 5, 2) := by decide +kernel
theorem dX8_settle_88 : decode cX8_settle 88 = .ok (.aload_n 0, 1) := by decide +kernel
theorem dX8_settle_89 : decode cX8_settle 89 = .ok (.getfield 27, 3) := by decide +kernel
theorem dX8_settle_92 : decode cX8_settle 92 = .ok (.iload_n 1, 1) := by decide +kernel
theorem dX8_settle_93 : decode cX8_settle 93 = .ok (.iaload, 1) := by decide +kernel
theorem dX8_settle_94 : decode cX8_settle 94 = .ok (.bipush 7, 2) := by decide +kernel
theorem dX8_settle_96 : decode cX8_settle 96 = .ok (.invokevirtual 79, 3) := by decide +kernel
theorem dX8_settle_99 : decode cX8_settle 99 = .ok (.goto 4, 3) := by decide +kernel
theorem dX8_settle_102 : decode cX8_settle 102 = .ok (.iconst 0, 1) := by decide +kernel
theorem dX8_settle_103 : decode cX8_settle 103 = .ok (.istore 7, 2) := by decide +kernel
theorem dX8_settle_105 : decode cX8_settle 105 = .ok (.iload 7, 2) := by decide +kernel
theorem dX8_settle_107 : decode cX8_settle 107 = .ok (.iload 4, 2) := by decide +kernel
theorem dX8_settle_109 : decode cX8_settle 109 = .ok (.if_icmp .gt 16, 3) := by decide +kernel
theorem dX8_settle_112 : decode cX8_settle 112 = .ok (.iload 7, 2) := by decide +kernel
theorem dX8_settle_114 : decode cX8_settle 114 = .ok (.iload 4, 2) := by decide +kernel
theorem dX8_settle_116 : decode cX8_settle 116 = .ok (.if_icmp .ne 16, 3) := by decide +kernel
theorem dX8_settle_119 : decode cX8_settle 119 = .ok (.iload 5, 2) := by decide +kernel
theorem dX8_settle_121 : decode cX8_settle 121 = .ok (.iload_n 2, 1) := by decide +kernel
theorem dX8_settle_122 : decode cX8_settle 122 = .ok (.if_icmp .ne 10, 3) := by decide +kernel
theorem dX8_settle_125 : decode cX8_settle 125 = .ok (.iload 5, 2) := by decide +kernel
theorem dX8_settle_127 : decode cX8_settle 127 = .ok (.istore_n 3, 1) := by decide +kernel
theorem dX8_settle_128 : decode cX8_settle 128 = .ok (.iload 7, 2) := by decide +kernel
theorem dX8_settle_130 : decode cX8_settle 130 = .ok (.istore 4, 2) := by decide +kernel
theorem dX8_settle_132 : decode cX8_settle 132 = .ok (.iinc 5 1, 3) := by decide +kernel
theorem dX8_settle_135 : decode cX8_settle 135 = .ok (.goto (-120), 3) := by decide +kernel
theorem dX8_settle_138 : decode cX8_settle 138 = .ok (.aload_n 0, 1) := by decide +kernel
theorem dX8_settle_139 : decode cX8_settle 139 = .ok (.getfield 30, 3) := by decide +kernel
theorem dX8_settle_142 : decode cX8_settle 142 = .ok (.iload_n 1, 1) := by decide +kernel
theorem dX8_settle_143 : decode cX8_settle 143 = .ok (.iload_n 3, 1) := by decide +kernel
theorem dX8_settle_144 : decode cX8_settle 144 = .ok (.iastore, 1) := by decide +kernel
theorem dX8_settle_145 : decode cX8_settle 145 = .ok (.return_, 1) := by decide +kernel
theorem dX8_settleAll_0 : decode cX8_settleAll 0 = .ok (.iconst 1, 1) := by decide +kernel
theorem dX8_settleAll_1 : decode cX8_settleAll 1 = .ok (.istore_n 1, 1) := by decide +kernel
theorem dX8_settleAll_2 : decode cX8_settleAll 2 = .ok (.iconst 0, 1) := by decide +kernel
theorem dX8_settleAll_3 : decode cX8_settleAll 3 = .ok (.istore_n 2, 1) := by decide +kernel
theorem dX8_settleAll_4 : decode cX8_settleAll 4 = .ok (.iload_n 1, 1) := by decide +kernel
theorem dX8_settleAll_5 : decode cX8_settleAll 5 = .ok (.ifCond .eq 70, 3) := by decide +kernel
theorem dX8_settleAll_8 : decode cX8_settleAll 8 = .ok (.iload_n 2, 1) := by decide +kernel
theorem dX8_settleAll_9 : decode cX8_settleAll 9 = .ok (.bipush 10, 2) := by decide +kernel
theorem dX8_settleAll_11 : decode cX8_settleAll 11 = .ok (.if_icmp .ge 64, 3) := by decide +kernel
theorem dX8_settleAll_14 : decode cX8_settleAll 14 = .ok (.iconst 0, 1) := by decide +kernel
theorem dX8_settleAll_15 : decode cX8_settleAll 15 = .ok (.istore_n 1, 1) := by decide +kernel
theorem dX8_settleAll_16 : decode cX8_settleAll 16 = .ok (.iconst 0, 1) := by decide +kernel
theorem dX8_settleAll_17 : decode cX8_settleAll 17 = .ok (.istore_n 3, 1) := by decide +kernel
theorem dX8_settleAll_18 : decode cX8_settleAll 18 = .ok (.iload_n 3, 1) := by decide +kernel
theorem dX8_settleAll_19 : decode cX8_settleAll 19 = .ok (.aload_n 0, 1) := by decide +kernel
theorem dX8_settleAll_20 : decode cX8_settleAll 20 = .ok (.getfield 42, 3) := by decide +kernel
theorem dX8_settleAll_23 : decode cX8_settleAll 23 = .ok (.getfield 74, 3) := by decide +kernel
theorem dX8_settleAll_26 : decode cX8_settleAll 26 = .ok (.iconst 3, 1) := by decide +kernel
theorem dX8_settleAll_27 : decode cX8_settleAll 27 = .ok (.iaload, 1) := by decide +kernel
theorem dX8_settleAll_28 : decode cX8_settleAll 28 = .ok (.if_icmp .ge 41, 3) := by decide +kernel
theorem dX8_settleAll_31 : decode cX8_settleAll 31 = .ok (.aload_n 0, 1) := by decide +kernel
theorem dX8_settleAll_32 : decode cX8_settleAll 32 = .ok (.getfield 30, 3) := by decide +kernel
theorem dX8_settleAll_35 : decode cX8_settleAll 35 = .ok (.iload_n 3, 1) := by decide +kernel
theorem dX8_settleAll_36 : decode cX8_settleAll 36 = .ok (.iaload, 1) := by decide +kernel
theorem dX8_settleAll_37 : decode cX8_settleAll 37 = .ok (.istore 4, 2) := by decide +kernel
theorem dX8_settleAll_39 : decode cX8_settleAll 39 = .ok (.aload_n 0, 1) := by decide +kernel
theorem dX8_settleAll_40 : decode cX8_settleAll 40 = .ok (.iload_n 3, 1) := by decide +kernel
theorem dX8_settleAll_41 : decode cX8_settleAll 41 = .ok (.invokevirtual 156, 3) := by decide +kernel
theorem dX8_settleAll_44 : decode cX8_settleAll 44 = .ok (.iload_n 1, 1) := by decide +kernel
theorem dX8_settleAll_45 : decode cX8_settleAll 45 = .ok (.aload_n 0, 1) := by decide +kernel
theorem dX8_settleAll_46 : decode cX8_settleAll 46 = .ok (.getfield 30, 3) := by decide +kernel
theorem dX8_settleAll_49 : decode cX8_settleAll 49 = .ok (.iload_n 3, 1) := by decide +kernel
theorem dX8_settleAll_50 : decode cX8_settleAll 50 = .ok (.iaload, 1) := by decide +kernel
theorem dX8_settleAll_51 : decode cX8_settleAll 51 = .ok (.iload 4, 2) := by decide +kernel
theorem dX8_settleAll_53 : decode cX8_settleAll 53 = .ok (.if_icmp .eq 7, 3) := by decide +kernel
theorem dX8_settleAll_56 : decode cX8_settleAll 56 = .ok (.iconst 1, 1) := by decide +kernel
theorem dX8_settleAll_57 : decode cX8_settleAll 57 = .ok (.goto 4, 3) := by decide +kernel
theorem dX8_settleAll_60 : decode cX8_settleAll 60 = .ok (.iconst 0, 1) := by decide +kernel
theorem dX8_settleAll_61 : decode cX8_settleAll 61 = .ok (.ior, 1) := by decide +kernel
theorem dX8_settleAll_62 : decode cX8_settleAll 62 = .ok (.istore_n 1, 1) := by decide +kernel
theorem dX8_settleAll_63 : decode cX8_settleAll 63 = .ok (.iinc 3 1, 3) := by decide +kernel
theorem dX8_settleAll_66 : decode cX8_settleAll 66 = .ok (.goto (-48), 3) := by decide +kernel
theorem dX8_settleAll_69 : decode cX8_settleAll 69 = .ok (.iinc 2 1, 3) := by decide +kernel
theorem dX8_settleAll_72 : decode cX8_settleAll 72 = .ok (.goto (-68), 3) := by decide +kernel
theorem dX8_settleAll_75 : decode cX8_settleAll 75 = .ok (.iload_n 2, 1) := by decide +kernel
theorem dX8_settleAll_76 : decode cX8_settleAll 76 = .ok (.ireturn, 1) := by decide +kernel
theorem dX8_sitDown_0 : decode cX8_sitDown 0 = .ok (.aload_n 0, 1) := by decide +kernel
theorem dX8_sitDown_1 : decode cX8_sitDown 1 = .ok (.getfield 30, 3) := by decide +kernel
theorem dX8_sitDown_4 : decode cX8_sitDown 4 = .ok (.iload_n 1, 1) := by decide +kernel
theorem dX8_sitDown_5 : decode cX8_sitDown 5 = .ok (.iaload, 1) := by decide +kernel
theorem dX8_sitDown_6 : decode cX8_sitDown 6 = .ok (.iload_n 2, 1) := by decide +kernel
theorem dX8_sitDown_7 : decode cX8_sitDown 7 = .ok (.if_icmp .ne 5, 3) := by decide +kernel
theorem dX8_sitDown_10 : decode cX8_sitDown 10 = .ok (.iconst 1, 1) := by decide +kernel
theorem dX8_sitDown_11 : decode cX8_sitDown 11 = .ok (.ireturn, 1) := by decide +kernel
theorem dX8_sitDown_12 : decode cX8_sitDown 12 = .ok (.aload_n 0, 1) := by decide +kernel
theorem dX8_sitDown_13 : decode cX8_sitDown 13 = .ok (.getfield 30, 3) := by decide +kernel
theorem dX8_sitDown_16 : decode cX8_sitDown 16 = .ok (.iload_n 1, 1) := by decide +kernel
theorem dX8_sitDown_17 : decode cX8_sitDown 17 = .ok (.iload_n 2, 1) := by decide +kernel
theorem dX8_sitDown_18 : decode cX8_sitDown 18 = .ok (.iastore, 1) := by decide +kernel
theorem dX8_sitDown_19 : decode cX8_sitDown 19 = .ok (.iconst 0, 1) := by decide +kernel
theorem dX8_sitDown_20 : decode cX8_sitDown 20 = .ok (.ireturn, 1) := by decide +kernel
theorem dX8_sizeOf_0 : decode cX8_sizeOf 0 = .ok (.iconst 0, 1) := by decide +kernel
theorem dX8_sizeOf_1 : decode cX8_sizeOf 1 = .ok (.istore_n 2, 1) := by decide +kernel
theorem dX8_sizeOf_2 : decode cX8_sizeOf 2 = .ok (.iconst 0, 1) := by decide +kernel
theorem dX8_sizeOf_3 : decode cX8_sizeOf 3 = .ok (.istore_n 3, 1) := by decide +kernel
theorem dX8_sizeOf_4 : decode cX8_sizeOf 4 = .ok (.iload_n 3, 1) := by decide +kernel
theorem dX8_sizeOf_5 : decode cX8_sizeOf 5 = .ok (.aload_n 0, 1) := by decide +kernel
theorem dX8_sizeOf_6 : decode cX8_sizeOf 6 = .ok (.getfield 42, 3) := by decide +kernel
theorem dX8_sizeOf_9 : decode cX8_sizeOf 9 = .ok (.getfield 74, 3) := by decide +kernel
theorem dX8_sizeOf_12 : decode cX8_sizeOf 12 = .ok (.iconst 0, 1) := by decide +kernel
theorem dX8_sizeOf_13 : decode cX8_sizeOf 13 = .ok (.iaload, 1) := by decide +kernel
theorem dX8_sizeOf_14 : decode cX8_sizeOf 14 = .ok (.if_icmp .ge 18, 3) := by decide +kernel
theorem dX8_sizeOf_17 : decode cX8_sizeOf 17 = .ok (.iload_n 2, 1) := by decide +kernel
theorem dX8_sizeOf_18 : decode cX8_sizeOf 18 = .ok (.aload_n 0, 1) := by decide +kernel
theorem dX8_sizeOf_19 : decode cX8_sizeOf 19 = .ok (.iload_n 1, 1) := by decide +kernel
theorem dX8_sizeOf_20 : decode cX8_sizeOf 20 = .ok (.iload_n 3, 1) := by decide +kernel
theorem dX8_sizeOf_21 : decode cX8_sizeOf 21 = .ok (.invokevirtual 146, 3) := by decide +kernel
theorem dX8_sizeOf_24 : decode cX8_sizeOf 24 = .ok (.iadd, 1) := by decide +kernel
theorem dX8_sizeOf_25 : decode cX8_sizeOf 25 = .ok (.istore_n 2, 1) := by decide +kernel
theorem dX8_sizeOf_26 : decode cX8_sizeOf 26 = .ok (.iinc 3 1, 3) := by decide +kernel
theorem dX8_sizeOf_29 : decode cX8_sizeOf 29 = .ok (.goto (-25), 3) := by decide +kernel
theorem dX8_sizeOf_32 : decode cX8_sizeOf 32 = .ok (.iload_n 2, 1) := by decide +kernel
theorem dX8_sizeOf_33 : decode cX8_sizeOf 33 = .ok (.ireturn, 1) := by decide +kernel
theorem dX8_standUp_0 : decode cX8_standUp 0 = .ok (.aload_n 0, 1) := by decide +kernel
theorem dX8_standUp_1 : decode cX8_standUp 1 = .ok (.getfield 30, 3) := by decide +kernel
theorem dX8_standUp_4 : decode cX8_standUp 4 = .ok (.iload_n 1, 1) := by decide +kernel
theorem dX8_standUp_5 : decode cX8_standUp 5 = .ok (.iaload, 1) := by decide +kernel
theorem dX8_standUp_6 : decode cX8_standUp 6 = .ok (.iconst (-1), 1) := by decide +kernel
theorem dX8_standUp_7 : decode cX8_standUp 7 = .ok (.if_icmp .ne 5, 3) := by decide +kernel
theorem dX8_standUp_10 : decode cX8_standUp 10 = .ok (.iconst 1, 1) := by decide +kernel
theorem dX8_standUp_11 : decode cX8_standUp 11 = .ok (.ireturn, 1) := by decide +kernel
theorem dX8_standUp_12 : decode cX8_standUp 12 = .ok (.aload_n 0, 1) := by decide +kernel
theorem dX8_standUp_13 : decode cX8_standUp 13 = .ok (.getfield 30, 3) := by decide +kernel
theorem dX8_standUp_16 : decode cX8_standUp 16 = .ok (.iload_n 1, 1) := by decide +kernel
theorem dX8_standUp_17 : decode cX8_standUp 17 = .ok (.iconst (-1), 1) := by decide +kernel
theorem dX8_standUp_18 : decode cX8_standUp 18 = .ok (.iastore, 1) := by decide +kernel
theorem dX8_standUp_19 : decode cX8_standUp 19 = .ok (.iconst 0, 1) := by decide +kernel
theorem dX8_standUp_20 : decode cX8_standUp 20 = .ok (.ireturn, 1) := by decide +kernel
theorem dX8_sumOfParcels_0 : decode cX8_sumOfParcels 0 = .ok (.iconst 0, 1) := by decide +kernel
theorem dX8_sumOfParcels_1 : decode cX8_sumOfParcels 1 = .ok (.istore_n 2, 1) := by decide +kernel
theorem dX8_sumOfParcels_2 : decode cX8_sumOfParcels 2 = .ok (.iconst 0, 1) := by decide +kernel
theorem dX8_sumOfParcels_3 : decode cX8_sumOfParcels 3 = .ok (.istore_n 3, 1) := by decide +kernel
theorem dX8_sumOfParcels_4 : decode cX8_sumOfParcels 4 = .ok (.iload_n 3, 1) := by decide +kernel
theorem dX8_sumOfParcels_5 : decode cX8_sumOfParcels 5 = .ok (.aload_n 0, 1) := by decide +kernel
theorem dX8_sumOfParcels_6 : decode cX8_sumOfParcels 6 = .ok (.getfield 42, 3) := by decide +kernel
theorem dX8_sumOfParcels_9 : decode cX8_sumOfParcels 9 = .ok (.getfield 74, 3) := by decide +kernel
theorem dX8_sumOfParcels_12 : decode cX8_sumOfParcels 12 = .ok (.iconst 2, 1) := by decide +kernel
theorem dX8_sumOfParcels_13 : decode cX8_sumOfParcels 13 = .ok (.iaload, 1) := by decide +kernel
theorem dX8_sumOfParcels_14 : decode cX8_sumOfParcels 14 = .ok (.if_icmp .ge 21, 3) := by decide +kernel
theorem dX8_sumOfParcels_17 : decode cX8_sumOfParcels 17 = .ok (.iload_n 3, 1) := by decide +kernel
theorem dX8_sumOfParcels_18 : decode cX8_sumOfParcels 18 = .ok (.aload_n 1, 1) := by decide +kernel
theorem dX8_sumOfParcels_19 : decode cX8_sumOfParcels 19 = .ok (.arraylength, 1) := by decide +kernel
theorem dX8_sumOfParcels_20 : decode cX8_sumOfParcels 20 = .ok (.if_icmp .ge 15, 3) := by decide +kernel
theorem dX8_sumOfParcels_23 : decode cX8_sumOfParcels 23 = .ok (.iload_n 2, 1) := by decide +kernel
theorem dX8_sumOfParcels_24 : decode cX8_sumOfParcels 24 = .ok (.aload_n 1, 1) := by decide +kernel
theorem dX8_sumOfParcels_25 : decode cX8_sumOfParcels 25 = .ok (.iload_n 3, 1) := by decide +kernel
theorem dX8_sumOfParcels_26 : decode cX8_sumOfParcels 26 = .ok (.iaload, 1) := by decide +kernel
theorem dX8_sumOfParcels_27 : decode cX8_sumOfParcels 27 = .ok (.iadd, 1) := by decide +kernel
theorem dX8_sumOfParcels_28 : decode cX8_sumOfParcels 28 = .ok (.istore_n 2, 1) := by decide +kernel
theorem dX8_sumOfParcels_29 : decode cX8_sumOfParcels 29 = .ok (.iinc 3 1, 3) := by decide +kernel
theorem dX8_sumOfParcels_32 : decode cX8_sumOfParcels 32 = .ok (.goto (-28), 3) := by decide +kernel
theorem dX8_sumOfParcels_35 : decode cX8_sumOfParcels 35 = .ok (.iload_n 2, 1) := by decide +kernel
theorem dX8_sumOfParcels_36 : decode cX8_sumOfParcels 36 = .ok (.ireturn, 1) := by decide +kernel
theorem dX8_takeFrom_0 : decode cX8_takeFrom 0 = .ok (.aload_n 0, 1) := by decide +kernel
theorem dX8_takeFrom_1 : decode cX8_takeFrom 1 = .ok (.aload_n 1, 1) := by decide +kernel
theorem dX8_takeFrom_2 : decode cX8_takeFrom 2 = .ok (.getfield 42, 3) := by decide +kernel
theorem dX8_takeFrom_5 : decode cX8_takeFrom 5 = .ok (.putfield 42, 3) := by decide +kernel
theorem dX8_takeFrom_8 : decode cX8_takeFrom 8 = .ok (.aload_n 0, 1) := by decide +kernel
theorem dX8_takeFrom_9 : decode cX8_takeFrom 9 = .ok (.aload_n 1, 1) := by decide +kernel
theorem dX8_takeFrom_10 : decode cX8_takeFrom 10 = .ok (.getfield 52, 3) := by decide +kernel
theorem dX8_takeFrom_13 : decode cX8_takeFrom 13 = .ok (.putfield 52, 3) := by decide +kernel
theorem dX8_takeFrom_16 : decode cX8_takeFrom 16 = .ok (.aload_n 1, 1) := by decide +kernel
theorem dX8_takeFrom_17 : decode cX8_takeFrom 17 = .ok (.getfield 9, 3) := by decide +kernel
theorem dX8_takeFrom_20 : decode cX8_takeFrom 20 = .ok (.iconst 0, 1) := by decide +kernel
theorem dX8_takeFrom_21 : decode cX8_takeFrom 21 = .ok (.aload_n 0, 1) := by decide +kernel
theorem dX8_takeFrom_22 : decode cX8_takeFrom 22 = .ok (.getfield 9, 3) := by decide +kernel
theorem dX8_takeFrom_25 : decode cX8_takeFrom 25 = .ok (.iconst 0, 1) := by decide +kernel
theorem dX8_takeFrom_26 : decode cX8_takeFrom 26 = .ok (.aload_n 0, 1) := by decide +kernel
theorem dX8_takeFrom_27 : decode cX8_takeFrom 27 = .ok (.getfield 9, 3) := by decide +kernel
theorem dX8_takeFrom_30 : decode cX8_takeFrom 30 = .ok (.arraylength, 1) := by decide +kernel
theorem dX8_takeFrom_31 : decode cX8_takeFrom 31 = .ok (.invokestatic 56, 3) := by decide +kernel
theorem dX8_takeFrom_34 : decode cX8_takeFrom 34 = .ok (.aload_n 1, 1) := by decide +kernel
theorem dX8_takeFrom_35 : decode cX8_takeFrom 35 = .ok (.getfield 15, 3) := by decide +kernel
theorem dX8_takeFrom_38 : decode cX8_takeFrom 38 = .ok (.iconst 0, 1) := by decide +kernel
theorem dX8_takeFrom_39 : decode cX8_takeFrom 39 = .ok (.aload_n 0, 1) := by decide +kernel
theorem dX8_takeFrom_40 : decode cX8_takeFrom 40 = .ok (.getfield 15, 3) := by decide +kernel
theorem dX8_takeFrom_43 : decode cX8_takeFrom 43 = .ok (.iconst 0, 1) := by decide +kernel
theorem dX8_takeFrom_44 : decode cX8_takeFrom 44 = .ok (.aload_n 0, 1) := by decide +kernel
theorem dX8_takeFrom_45 : decode cX8_takeFrom 45 = .ok (.getfield 15, 3) := by decide +kernel
theorem dX8_takeFrom_48 : decode cX8_takeFrom 48 = .ok (.arraylength, 1) := by decide +kernel
theorem dX8_takeFrom_49 : decode cX8_takeFrom 49 = .ok (.invokestatic 56, 3) := by decide +kernel
theorem dX8_takeFrom_52 : decode cX8_takeFrom 52 = .ok (.aload_n 1, 1) := by decide +kernel
theorem dX8_takeFrom_53 : decode cX8_takeFrom 53 = .ok (.getfield 18, 3) := by decide +kernel
theorem dX8_takeFrom_56 : decode cX8_takeFrom 56 = .ok (.iconst 0, 1) := by decide +kernel
theorem dX8_takeFrom_57 : decode cX8_takeFrom 57 = .ok (.aload_n 0, 1) := by decide +kernel
theorem dX8_takeFrom_58 : decode cX8_takeFrom 58 = .ok (.getfield 18, 3) := by decide +kernel
theorem dX8_takeFrom_61 : decode cX8_takeFrom 61 = .ok (.iconst 0, 1) := by decide +kernel
theorem dX8_takeFrom_62 : decode cX8_takeFrom 62 = .ok (.aload_n 0, 1) := by decide +kernel
theorem dX8_takeFrom_63 : decode cX8_takeFrom 63 = .ok (.getfield 18, 3) := by decide +kernel
theorem dX8_takeFrom_66 : decode cX8_takeFrom 66 = .ok (.arraylength, 1) := by decide +kernel
theorem dX8_takeFrom_67 : decode cX8_takeFrom 67 = .ok (.invokestatic 56, 3) := by decide +kernel
theorem dX8_takeFrom_70 : decode cX8_takeFrom 70 = .ok (.aload_n 1, 1) := by decide +kernel
theorem dX8_takeFrom_71 : decode cX8_takeFrom 71 = .ok (.getfield 21, 3) := by decide +kernel
theorem dX8_takeFrom_74 : decode cX8_takeFrom 74 = .ok (.iconst 0, 1) := by decide +kernel
theorem dX8_takeFrom_75 : decode cX8_takeFrom 75 = .ok (.aload_n 0, 1) := by decide +kernel
theorem dX8_takeFrom_76 : decode cX8_takeFrom 76 = .ok (.getfield 21, 3) := by decide +kernel
theorem dX8_takeFrom_79 : decode cX8_takeFrom 79 = .ok (.iconst 0, 1) := by decide +kernel
theorem dX8_takeFrom_80 : decode cX8_takeFrom 80 = .ok (.aload_n 0, 1) := by decide +kernel
theorem dX8_takeFrom_81 : decode cX8_takeFrom 81 = .ok (.getfield 21, 3) := by decide +kernel
theorem dX8_takeFrom_84 : decode cX8_takeFrom 84 = .ok (.arraylength, 1) := by decide +kernel
theorem dX8_takeFrom_85 : decode cX8_takeFrom 85 = .ok (.invokestatic 56, 3) := by decide +kernel
theorem dX8_takeFrom_88 : decode cX8_takeFrom 88 = .ok (.aload_n 1, 1) := by decide +kernel
theorem dX8_takeFrom_89 : decode cX8_takeFrom 89 = .ok (.getfield 24, 3) := by decide +kernel
theorem dX8_takeFrom_92 : decode cX8_takeFrom 92 = .ok (.iconst 0, 1) := by decide +kernel
theorem dX8_takeFrom_93 : decode cX8_takeFrom 93 = .ok (.aload_n 0, 1) := by decide +kernel
theorem dX8_takeFrom_94 : decode cX8_takeFrom 94 = .ok (.getfield 24, 3) := by decide +kernel
theorem dX8_takeFrom_97 : decode cX8_takeFrom 97 = .ok (.iconst 0, 1) := by decide +kernel
theorem dX8_takeFrom_98 : decode cX8_takeFrom 98 = .ok (.aload_n 0, 1) := by decide +kernel
theorem dX8_takeFrom_99 : decode cX8_takeFrom 99 = .ok (.getfield 24, 3) := by decide +kernel
theorem dX8_takeFrom_102 : decode cX8_takeFrom 102 = .ok (.arraylength, 1) := by decide +kernel
theorem dX8_takeFrom_103 : decode cX8_takeFrom 103 = .ok (.invokestatic 56, 3) := by decide +kernel
theorem dX8_takeFrom_106 : decode cX8_takeFrom 106 = .ok (.aload_n 1, 1) := by decide +kernel
theorem dX8_takeFrom_107 : decode cX8_takeFrom 107 = .ok (.getfield 27, 3) := by decide +kernel
theorem dX8_takeFrom_110 : decode cX8_takeFrom 110 = .ok (.iconst 0, 1) := by decide +kernel
theorem dX8_takeFrom_111 : decode cX8_takeFrom 111 = .ok (.aload_n 0, 1) := by decide +kernel
theorem dX8_takeFrom_112 : decode cX8_takeFrom 112 = .ok (.getfield 27, 3) := by decide +kernel
theorem dX8_takeFrom_115 : decode cX8_takeFrom 115 = .ok (.iconst 0, 1) := by decide +kernel
theorem dX8_takeFrom_116 : decode cX8_takeFrom 116 = .ok (.aload_n 0, 1) := by decide +kernel
theorem dX8_takeFrom_117 : decode cX8_takeFrom 117 = .ok (.getfield 27, 3) := by decide +kernel
theorem dX8_takeFrom_120 : decode cX8_takeFrom 120 = .ok (.arraylength, 1) := by decide +kernel
theorem dX8_takeFrom_121 : decode cX8_takeFrom 121 = .ok (.invokestatic 56, 3) := by decide +kernel
theorem dX8_takeFrom_124 : decode cX8_takeFrom 124 = .ok (.aload_n 1, 1) := by decide +kernel
theorem dX8_takeFrom_125 : decode cX8_takeFrom 125 = .ok (.getfield 30, 3) := by decide +kernel
theorem dX8_takeFrom_128 : decode cX8_takeFrom 128 = .ok (.iconst 0, 1) := by decide +kernel
theorem dX8_takeFrom_129 : decode cX8_takeFrom 129 = .ok (.aload_n 0, 1) := by decide +kernel
theorem dX8_takeFrom_130 : decode cX8_takeFrom 130 = .ok (.getfield 30, 3) := by decide +kernel
theorem dX8_takeFrom_133 : decode cX8_takeFrom 133 = .ok (.iconst 0, 1) := by decide +kernel
theorem dX8_takeFrom_134 : decode cX8_takeFrom 134 = .ok (.aload_n 0, 1) := by decide +kernel
theorem dX8_takeFrom_135 : decode cX8_takeFrom 135 = .ok (.getfield 30, 3) := by decide +kernel
theorem dX8_takeFrom_138 : decode cX8_takeFrom 138 = .ok (.arraylength, 1) := by decide +kernel
theorem dX8_takeFrom_139 : decode cX8_takeFrom 139 = .ok (.invokestatic 56, 3) := by decide +kernel
theorem dX8_takeFrom_142 : decode cX8_takeFrom 142 = .ok (.aload_n 1, 1) := by decide +kernel
theorem dX8_takeFrom_143 : decode cX8_takeFrom 143 = .ok (.getfield 33, 3) := by decide +kernel
theorem dX8_takeFrom_146 : decode cX8_takeFrom 146 = .ok (.iconst 0, 1) := by decide +kernel
theorem dX8_takeFrom_147 : decode cX8_takeFrom 147 = .ok (.aload_n 0, 1) := by decide +kernel
theorem dX8_takeFrom_148 : decode cX8_takeFrom 148 = .ok (.getfield 33, 3) := by decide +kernel
theorem dX8_takeFrom_151 : decode cX8_takeFrom 151 = .ok (.iconst 0, 1) := by decide +kernel
theorem dX8_takeFrom_152 : decode cX8_takeFrom 152 = .ok (.aload_n 0, 1) := by decide +kernel
theorem dX8_takeFrom_153 : decode cX8_takeFrom 153 = .ok (.getfield 33, 3) := by decide +kernel
theorem dX8_takeFrom_156 : decode cX8_takeFrom 156 = .ok (.arraylength, 1) := by decide +kernel
theorem dX8_takeFrom_157 : decode cX8_takeFrom 157 = .ok (.invokestatic 56, 3) := by decide +kernel
theorem dX8_takeFrom_160 : decode cX8_takeFrom 160 = .ok (.aload_n 1, 1) := by decide +kernel
theorem dX8_takeFrom_161 : decode cX8_takeFrom 161 = .ok (.getfield 36, 3) := by decide +kernel
theorem dX8_takeFrom_164 : decode cX8_takeFrom 164 = .ok (.iconst 0, 1) := by decide +kernel
theorem dX8_takeFrom_165 : decode cX8_takeFrom 165 = .ok (.aload_n 0, 1) := by decide +kernel
theorem dX8_takeFrom_166 : decode cX8_takeFrom 166 = .ok (.getfield 36, 3) := by decide +kernel
theorem dX8_takeFrom_169 : decode cX8_takeFrom 169 = .ok (.iconst 0, 1) := by decide +kernel
theorem dX8_takeFrom_170 : decode cX8_takeFrom 170 = .ok (.aload_n 0, 1) := by decide +kernel
theorem dX8_takeFrom_171 : decode cX8_takeFrom 171 = .ok (.getfield 36, 3) := by decide +kernel
theorem dX8_takeFrom_174 : decode cX8_takeFrom 174 = .ok (.arraylength, 1) := by decide +kernel
theorem dX8_takeFrom_175 : decode cX8_takeFrom 175 = .ok (.invokestatic 56, 3) := by decide +kernel
theorem dX8_takeFrom_178 : decode cX8_takeFrom 178 = .ok (.return_, 1) := by decide +kernel
theorem dX8_whichAreNothing_0 : decode cX8_whichAreNothing 0 = .ok (.iconst 0, 1) := by decide +kernel
theorem dX8_whichAreNothing_1 : decode cX8_whichAreNothing 1 = .ok (.istore_n 1, 1) := by decide +kernel
theorem dX8_whichAreNothing_2 : decode cX8_whichAreNothing 2 = .ok (.iconst 0, 1) := by decide +kernel
theorem dX8_whichAreNothing_3 : decode cX8_whichAreNothing 3 = .ok (.istore_n 2, 1) := by decide +kernel
theorem dX8_whichAreNothing_4 : decode cX8_whichAreNothing 4 = .ok (.iload_n 2, 1) := by decide +kernel
theorem dX8_whichAreNothing_5 : decode cX8_whichAreNothing 5 = .ok (.aload_n 0, 1) := by decide +kernel
theorem dX8_whichAreNothing_6 : decode cX8_whichAreNothing 6 = .ok (.getfield 42, 3) := by decide +kernel
theorem dX8_whichAreNothing_9 : decode cX8_whichAreNothing 9 = .ok (.getfield 74, 3) := by decide +kernel
theorem dX8_whichAreNothing_12 : decode cX8_whichAreNothing 12 = .ok (.iconst 2, 1) := by decide +kernel
theorem dX8_whichAreNothing_13 : decode cX8_whichAreNothing 13 = .ok (.iaload, 1) := by decide +kernel
theorem dX8_whichAreNothing_14 : decode cX8_whichAreNothing 14 = .ok (.if_icmp .ge 24, 3) := by decide +kernel
theorem dX8_whichAreNothing_17 : decode cX8_whichAreNothing 17 = .ok (.aload_n 0, 1) := by decide +kernel
theorem dX8_whichAreNothing_18 : decode cX8_whichAreNothing 18 = .ok (.iload_n 2, 1) := by decide +kernel
theorem dX8_whichAreNothing_19 : decode cX8_whichAreNothing 19 = .ok (.invokevirtual 139, 3) := by decide +kernel
theorem dX8_whichAreNothing_22 : decode cX8_whichAreNothing 22 = .ok (.iconst (-1), 1) := by decide +kernel
theorem dX8_whichAreNothing_23 : decode cX8_whichAreNothing 23 = .ok (.if_icmp .ne 9, 3) := by decide +kernel
theorem dX8_whichAreNothing_26 : decode cX8_whichAreNothing 26 = .ok (.iload_n 1, 1) := by decide +kernel
theorem dX8_whichAreNothing_27 : decode cX8_whichAreNothing 27 = .ok (.iconst 1, 1) := by decide +kernel
theorem dX8_whichAreNothing_28 : decode cX8_whichAreNothing 28 = .ok (.iload_n 2, 1) := by decide +kernel
theorem dX8_whichAreNothing_29 : decode cX8_whichAreNothing 29 = .ok (.ishl, 1) := by decide +kernel
theorem dX8_whichAreNothing_30 : decode cX8_whichAreNothing 30 = .ok (.ior, 1) := by decide +kernel
theorem dX8_whichAreNothing_31 : decode cX8_whichAreNothing 31 = .ok (.istore_n 1, 1) := by decide +kernel
theorem dX8_whichAreNothing_32 : decode cX8_whichAreNothing 32 = .ok (.iinc 2 1, 3) := by decide +kernel
theorem dX8_whichAreNothing_35 : decode cX8_whichAreNothing 35 = .ok (.goto (-31), 3) := by decide +kernel
theorem dX8_whichAreNothing_38 : decode cX8_whichAreNothing 38 = .ok (.iload_n 1, 1) := by decide +kernel
theorem dX8_whichAreNothing_39 : decode cX8_whichAreNothing 39 = .ok (.ireturn, 1) := by decide +kernel
theorem dX8_whichAreOpen_0 : decode cX8_whichAreOpen 0 = .ok (.iconst 0, 1) := by decide +kernel
theorem dX8_whichAreOpen_1 : decode cX8_whichAreOpen 1 = .ok (.istore_n 1, 1) := by decide +kernel
theorem dX8_whichAreOpen_2 : decode cX8_whichAreOpen 2 = .ok (.iconst 0, 1) := by decide +kernel
theorem dX8_whichAreOpen_3 : decode cX8_whichAreOpen 3 = .ok (.istore_n 2, 1) := by decide +kernel
theorem dX8_whichAreOpen_4 : decode cX8_whichAreOpen 4 = .ok (.iload_n 2, 1) := by decide +kernel
theorem dX8_whichAreOpen_5 : decode cX8_whichAreOpen 5 = .ok (.aload_n 0, 1) := by decide +kernel
theorem dX8_whichAreOpen_6 : decode cX8_whichAreOpen 6 = .ok (.getfield 42, 3) := by decide +kernel
theorem dX8_whichAreOpen_9 : decode cX8_whichAreOpen 9 = .ok (.getfield 74, 3) := by decide +kernel
theorem dX8_whichAreOpen_12 : decode cX8_whichAreOpen 12 = .ok (.iconst 2, 1) := by decide +kernel
theorem dX8_whichAreOpen_13 : decode cX8_whichAreOpen 13 = .ok (.iaload, 1) := by decide +kernel
theorem dX8_whichAreOpen_14 : decode cX8_whichAreOpen 14 = .ok (.if_icmp .ge 23, 3) := by decide +kernel
theorem dX8_whichAreOpen_17 : decode cX8_whichAreOpen 17 = .ok (.aload_n 0, 1) := by decide +kernel
theorem dX8_whichAreOpen_18 : decode cX8_whichAreOpen 18 = .ok (.iload_n 2, 1) := by decide +kernel
theorem dX8_whichAreOpen_19 : decode cX8_whichAreOpen 19 = .ok (.invokevirtual 95, 3) := by decide +kernel
theorem dX8_whichAreOpen_22 : decode cX8_whichAreOpen 22 = .ok (.ifCond .eq 9, 3) := by decide +kernel
theorem dX8_whichAreOpen_25 : decode cX8_whichAreOpen 25 = .ok (.iload_n 1, 1) := by decide +kernel
theorem dX8_whichAreOpen_26 : decode cX8_whichAreOpen 26 = .ok (.iconst 1, 1) := by decide +kernel
theorem dX8_whichAreOpen_27 : decode cX8_whichAreOpen 27 = .ok (.iload_n 2, 1) := by decide +kernel
theorem dX8_whichAreOpen_28 : decode cX8_whichAreOpen 28 = .ok (.ishl, 1) := by decide +kernel
theorem dX8_whichAreOpen_29 : decode cX8_whichAreOpen 29 = .ok (.ior, 1) := by decide +kernel
theorem dX8_whichAreOpen_30 : decode cX8_whichAreOpen 30 = .ok (.istore_n 1, 1) := by decide +kernel
theorem dX8_whichAreOpen_31 : decode cX8_whichAreOpen 31 = .ok (.iinc 2 1, 3) := by decide +kernel
theorem dX8_whichAreOpen_34 : decode cX8_whichAreOpen 34 = .ok (.goto (-30), 3) := by decide +kernel
theorem dX8_whichAreOpen_37 : decode cX8_whichAreOpen 37 = .ok (.iload_n 1, 1) := by decide +kernel
theorem dX8_whichAreOpen_38 : decode cX8_whichAreOpen 38 = .ok (.ireturn, 1) := by decide +kernel
theorem dX8_whichAreWatched_0 : decode cX8_whichAreWatched 0 = .ok (.iconst 0, 1) := by decide +kernel
theorem dX8_whichAreWatched_1 : decode cX8_whichAreWatched 1 = .ok (.istore_n 1, 1) := by decide +kernel
theorem dX8_whichAreWatched_2 : decode cX8_whichAreWatched 2 = .ok (.iconst 0, 1) := by decide +kernel
theorem dX8_whichAreWatched_3 : decode cX8_whichAreWatched 3 = .ok (.istore_n 2, 1) := by decide +kernel
theorem dX8_whichAreWatched_4 : decode cX8_whichAreWatched 4 = .ok (.iload_n 2, 1) := by decide +kernel
theorem dX8_whichAreWatched_5 : decode cX8_whichAreWatched 5 = .ok (.aload_n 0, 1) := by decide +kernel
theorem dX8_whichAreWatched_6 : decode cX8_whichAreWatched 6 = .ok (.getfield 42, 3) := by decide +kernel
theorem dX8_whichAreWatched_9 : decode cX8_whichAreWatched 9 = .ok (.getfield 74, 3) := by decide +kernel
theorem dX8_whichAreWatched_12 : decode cX8_whichAreWatched 12 = .ok (.iconst 2, 1) := by decide +kernel
theorem dX8_whichAreWatched_13 : decode cX8_whichAreWatched 13 = .ok (.iaload, 1) := by decide +kernel
theorem dX8_whichAreWatched_14 : decode cX8_whichAreWatched 14 = .ok (.if_icmp .ge 23, 3) := by decide +kernel
theorem dX8_whichAreWatched_17 : decode cX8_whichAreWatched 17 = .ok (.aload_n 0, 1) := by decide +kernel
theorem dX8_whichAreWatched_18 : decode cX8_whichAreWatched 18 = .ok (.iload_n 2, 1) := by decide +kernel
theorem dX8_whichAreWatched_19 : decode cX8_whichAreWatched 19 = .ok (.invokevirtual 159, 3) := by decide +kernel
theorem dX8_whichAreWatched_22 : decode cX8_whichAreWatched 22 = .ok (.ifCond .eq 9, 3) := by decide +kernel
theorem dX8_whichAreWatched_25 : decode cX8_whichAreWatched 25 = .ok (.iload_n 1, 1) := by decide +kernel
theorem dX8_whichAreWatched_26 : decode cX8_whichAreWatched 26 = .ok (.iconst 1, 1) := by decide +kernel
theorem dX8_whichAreWatched_27 : decode cX8_whichAreWatched 27 = .ok (.iload_n 2, 1) := by decide +kernel
theorem dX8_whichAreWatched_28 : decode cX8_whichAreWatched 28 = .ok (.ishl, 1) := by decide +kernel
theorem dX8_whichAreWatched_29 : decode cX8_whichAreWatched 29 = .ok (.ior, 1) := by decide +kernel
theorem dX8_whichAreWatched_30 : decode cX8_whichAreWatched 30 = .ok (.istore_n 1, 1) := by decide +kernel
theorem dX8_whichAreWatched_31 : decode cX8_whichAreWatched 31 = .ok (.iinc 2 1, 3) := by decide +kernel
theorem dX8_whichAreWatched_34 : decode cX8_whichAreWatched 34 = .ok (.goto (-30), 3) := by decide +kernel
theorem dX8_whichAreWatched_37 : decode cX8_whichAreWatched 37 = .ok (.iload_n 1, 1) := by decide +kernel
theorem dX8_whichAreWatched_38 : decode cX8_whichAreWatched 38 = .ok (.ireturn, 1) := by decide +kernel
theorem dX8_whoSitsBy_0 : decode cX8_whoSitsBy 0 = .ok (.iconst 0, 1) := by decide +kernel
theorem dX8_whoSitsBy_1 : decode cX8_whoSitsBy 1 = .ok (.istore_n 2, 1) := by decide +kernel
theorem dX8_whoSitsBy_2 : decode cX8_whoSitsBy 2 = .ok (.iconst 0, 1) := by decide +kernel
theorem dX8_whoSitsBy_3 : decode cX8_whoSitsBy 3 = .ok (.istore_n 3, 1) := by decide +kernel
theorem dX8_whoSitsBy_4 : decode cX8_whoSitsBy 4 = .ok (.iload_n 3, 1) := by decide +kernel
theorem dX8_whoSitsBy_5 : decode cX8_whoSitsBy 5 = .ok (.aload_n 0, 1) := by decide +kernel
theorem dX8_whoSitsBy_6 : decode cX8_whoSitsBy 6 = .ok (.getfield 42, 3) := by decide +kernel
theorem dX8_whoSitsBy_9 : decode cX8_whoSitsBy 9 = .ok (.getfield 74, 3) := by decide +kernel
theorem dX8_whoSitsBy_12 : decode cX8_whoSitsBy 12 = .ok (.iconst 3, 1) := by decide +kernel
theorem dX8_whoSitsBy_13 : decode cX8_whoSitsBy 13 = .ok (.iaload, 1) := by decide +kernel
theorem dX8_whoSitsBy_14 : decode cX8_whoSitsBy 14 = .ok (.if_icmp .ge 25, 3) := by decide +kernel
theorem dX8_whoSitsBy_17 : decode cX8_whoSitsBy 17 = .ok (.aload_n 0, 1) := by decide +kernel
theorem dX8_whoSitsBy_18 : decode cX8_whoSitsBy 18 = .ok (.getfield 30, 3) := by decide +kernel
theorem dX8_whoSitsBy_21 : decode cX8_whoSitsBy 21 = .ok (.iload_n 3, 1) := by decide +kernel
theorem dX8_whoSitsBy_22 : decode cX8_whoSitsBy 22 = .ok (.iaload, 1) := by decide +kernel
theorem dX8_whoSitsBy_23 : decode cX8_whoSitsBy 23 = .ok (.iload_n 1, 1) := by decide +kernel
theorem dX8_whoSitsBy_24 : decode cX8_whoSitsBy 24 = .ok (.if_icmp .ne 9, 3) := by decide +kernel
theorem dX8_whoSitsBy_27 : decode cX8_whoSitsBy 27 = .ok (.iload_n 2, 1) := by decide +kernel
theorem dX8_whoSitsBy_28 : decode cX8_whoSitsBy 28 = .ok (.iconst 1, 1) := by decide +kernel
theorem dX8_whoSitsBy_29 : decode cX8_whoSitsBy 29 = .ok (.iload_n 3, 1) := by decide +kernel
theorem dX8_whoSitsBy_30 : decode cX8_whoSitsBy 30 = .ok (.ishl, 1) := by decide +kernel
theorem dX8_whoSitsBy_31 : decode cX8_whoSitsBy 31 = .ok (.ior, 1) := by decide +kernel
theorem dX8_whoSitsBy_32 : decode cX8_whoSitsBy 32 = .ok (.istore_n 2, 1) := by decide +kernel
theorem dX8_whoSitsBy_33 : decode cX8_whoSitsBy 33 = .ok (.iinc 3 1, 3) := by decide +kernel
theorem dX8_whoSitsBy_36 : decode cX8_whoSitsBy 36 = .ok (.goto (-32), 3) := by decide +kernel
theorem dX8_whoSitsBy_39 : decode cX8_whoSitsBy 39 = .ok (.iload_n 2, 1) := by decide +kernel
theorem dX8_whoSitsBy_40 : decode cX8_whoSitsBy 40 = .ok (.ireturn, 1) := by decide +kernel
theorem dX8_whyNoGuess_0 : decode cX8_whyNoGuess 0 = .ok (.aload_n 0, 1) := by decide +kernel
theorem dX8_whyNoGuess_1 : decode cX8_whyNoGuess 1 = .ok (.getfield 30, 3) := by decide +kernel
theorem dX8_whyNoGuess_4 : decode cX8_whyNoGuess 4 = .ok (.iload_n 1, 1) := by decide +kernel
theorem dX8_whyNoGuess_5 : decode cX8_whyNoGuess 5 = .ok (.iaload, 1) := by decide +kernel
theorem dX8_whyNoGuess_6 : decode cX8_whyNoGuess 6 = .ok (.iconst (-1), 1) := by decide +kernel
theorem dX8_whyNoGuess_7 : decode cX8_whyNoGuess 7 = .ok (.if_icmp .ne 5, 3) := by decide +kernel
theorem dX8_whyNoGuess_10 : decode cX8_whyNoGuess 10 = .ok (.iconst 1, 1) := by decide +kernel
theorem dX8_whyNoGuess_11 : decode cX8_whyNoGuess 11 = .ok (.ireturn, 1) := by decide +kernel
theorem dX8_whyNoGuess_12 : decode cX8_whyNoGuess 12 = .ok (.aload_n 0, 1) := by decide +kernel
theorem dX8_whyNoGuess_13 : decode cX8_whyNoGuess 13 = .ok (.aload_n 0, 1) := by decide +kernel
theorem dX8_whyNoGuess_14 : decode cX8_whyNoGuess 14 = .ok (.getfield 30, 3) := by decide +kernel
theorem dX8_whyNoGuess_17 : decode cX8_whyNoGuess 17 = .ok (.iload_n 1, 1) := by decide +kernel
theorem dX8_whyNoGuess_18 : decode cX8_whyNoGuess 18 = .ok (.iaload, 1) := by decide +kernel
theorem dX8_whyNoGuess_19 : decode cX8_whyNoGuess 19 = .ok (.invokevirtual 95, 3) := by decide +kernel
theorem dX8_whyNoGuess_22 : decode cX8_whyNoGuess 22 = .ok (.ifCond .eq 7, 3) := by decide +kernel
theorem dX8_whyNoGuess_25 : decode cX8_whyNoGuess 25 = .ok (.iconst 2, 1) := by decide +kernel
theorem dX8_whyNoGuess_26 : decode cX8_whyNoGuess 26 = .ok (.goto 4, 3) := by decide +kernel
theorem dX8_whyNoGuess_29 : decode cX8_whyNoGuess 29 = .ok (.iconst 0, 1) := by decide +kernel
theorem dX8_whyNoGuess_30 : decode cX8_whyNoGuess 30 = .ok (.ireturn, 1) := by decide +kernel
theorem dX8_willHave_0 : decode cX8_willHave 0 = .ok (.aload_n 0, 1) := by decide +kernel
theorem dX8_willHave_1 : decode cX8_willHave 1 = .ok (.getfield 9, 3) := by decide +kernel
theorem dX8_willHave_4 : decode cX8_willHave 4 = .ok (.iload_n 1, 1) := by decide +kernel
theorem dX8_willHave_5 : decode cX8_willHave 5 = .ok (.bipush 6, 2) := by decide +kernel
theorem dX8_willHave_7 : decode cX8_willHave 7 = .ok (.imul, 1) := by decide +kernel
theorem dX8_willHave_8 : decode cX8_willHave 8 = .ok (.iload_n 2, 1) := by decide +kernel
theorem dX8_willHave_9 : decode cX8_willHave 9 = .ok (.iadd, 1) := by decide +kernel
theorem dX8_willHave_10 : decode cX8_willHave 10 = .ok (.iaload, 1) := by decide +kernel
theorem dX8_willHave_11 : decode cX8_willHave 11 = .ok (.iload_n 3, 1) := by decide +kernel
theorem dX8_willHave_12 : decode cX8_willHave 12 = .ok (.aload_n 0, 1) := by decide +kernel
theorem dX8_willHave_13 : decode cX8_willHave 13 = .ok (.getfield 39, 3) := by decide +kernel
theorem dX8_willHave_16 : decode cX8_willHave 16 = .ok (.iload_n 2, 1) := by decide +kernel
theorem dX8_willHave_17 : decode cX8_willHave 17 = .ok (.iaload, 1) := by decide +kernel
theorem dX8_willHave_18 : decode cX8_willHave 18 = .ok (.imul, 1) := by decide +kernel
theorem dX8_willHave_19 : decode cX8_willHave 19 = .ok (.iadd, 1) := by decide +kernel
theorem dX8_willHave_20 : decode cX8_willHave 20 = .ok (.istore 4, 2) := by decide +kernel
theorem dX8_willHave_22 : decode cX8_willHave 22 = .ok (.iload 4, 2) := by decide +kernel
theorem dX8_willHave_24 : decode cX8_willHave 24 = .ok (.bipush 99, 2) := by decide +kernel
theorem dX8_willHave_26 : decode cX8_willHave 26 = .ok (.if_icmp .ge 8, 3) := by decide +kernel
theorem dX8_willHave_29 : decode cX8_willHave 29 = .ok (.iload 4, 2) := by decide +kernel
theorem dX8_willHave_31 : decode cX8_willHave 31 = .ok (.goto 5, 3) := by decide +kernel
theorem dX8_willHave_34 : decode cX8_willHave 34 = .ok (.bipush 99, 2) := by decide +kernel
theorem dX8_willHave_36 : decode cX8_willHave 36 = .ok (.ireturn, 1) := by decide +kernel
theorem dX8_wishFor_0 : decode cX8_wishFor 0 = .ok (.aload_n 0, 1) := by decide +kernel
theorem dX8_wishFor_1 : decode cX8_wishFor 1 = .ok (.getfield 27, 3) := by decide +kernel
theorem dX8_wishFor_4 : decode cX8_wishFor 4 = .ok (.iload_n 1, 1) := by decide +kernel
theorem dX8_wishFor_5 : decode cX8_wishFor 5 = .ok (.iaload, 1) := by decide +kernel
theorem dX8_wishFor_6 : decode cX8_wishFor 6 = .ok (.iload_n 2, 1) := by decide +kernel
theorem dX8_wishFor_7 : decode cX8_wishFor 7 = .ok (.if_icmp .ne 5, 3) := by decide +kernel
theorem dX8_wishFor_10 : decode cX8_wishFor 10 = .ok (.iconst 1, 1) := by decide +kernel
theorem dX8_wishFor_11 : decode cX8_wishFor 11 = .ok (.ireturn, 1) := by decide +kernel
theorem dX8_wishFor_12 : decode cX8_wishFor 12 = .ok (.aload_n 0, 1) := by decide +kernel
theorem dX8_wishFor_13 : decode cX8_wishFor 13 = .ok (.getfield 27, 3) := by decide +kernel
theorem dX8_wishFor_16 : decode cX8_wishFor 16 = .ok (.iload_n 1, 1) := by decide +kernel
theorem dX8_wishFor_17 : decode cX8_wishFor 17 = .ok (.iload_n 2, 1) := by decide +kernel
theorem dX8_wishFor_18 : decode cX8_wishFor 18 = .ok (.iastore, 1) := by decide +kernel
theorem dX8_wishFor_19 : decode cX8_wishFor 19 = .ok (.iconst 0, 1) := by decide +kernel
theorem dX8_wishFor_20 : decode cX8_wishFor 20 = .ok (.ireturn, 1) := by decide +kernel
theorem dX8_wishesUnlike_0 : decode cX8_wishesUnlike 0 = .ok (.iconst (-1), 1) := by decide +kernel
theorem dX8_wishesUnlike_1 : decode cX8_wishesUnlike 1 = .ok (.istore_n 2, 1) := by decide +kernel
theorem dX8_wishesUnlike_2 : decode cX8_wishesUnlike 2 = .ok (.iconst 0, 1) := by decide +kernel
theorem dX8_wishesUnlike_3 : decode cX8_wishesUnlike 3 = .ok (.istore_n 3, 1) := by decide +kernel
theorem dX8_wishesUnlike_4 : decode cX8_wishesUnlike 4 = .ok (.iload_n 3, 1) := by decide +kernel
theorem dX8_wishesUnlike_5 : decode cX8_wishesUnlike 5 = .ok (.aload_n 0, 1) := by decide +kernel
theorem dX8_wishesUnlike_6 : decode cX8_wishesUnlike 6 = .ok (.getfield 42, 3) := by decide +kernel
theorem dX8_wishesUnlike_9 : decode cX8_wishesUnlike 9 = .ok (.getfield 74, 3) := by decide +kernel
theorem dX8_wishesUnlike_12 : decode cX8_wishesUnlike 12 = .ok (.iconst 3, 1) := by decide +kernel
theorem dX8_wishesUnlike_13 : decode cX8_wishesUnlike 13 = .ok (.iaload, 1) := by decide +kernel
theorem dX8_wishesUnlike_14 : decode cX8_wishesUnlike 14 = .ok (.if_icmp .ge 43, 3) := by decide +kernel
theorem dX8_wishesUnlike_17 : decode cX8_wishesUnlike 17 = .ok (.aload_n 0, 1) := by decide +kernel
theorem dX8_wishesUnlike_18 : decode cX8_wishesUnlike 18 = .ok (.getfield 30, 3) := by decide +kernel
theorem dX8_wishesUnlike_21 : decode cX8_wishesUnlike 21 = .ok (.iload_n 3, 1) := by decide +kernel
theorem dX8_wishesUnlike_22 : decode cX8_wishesUnlike 22 = .ok (.iaload, 1) := by decide +kernel
theorem dX8_wishesUnlike_23 : decode cX8_wishesUnlike 23 = .ok (.iload_n 1, 1) := by decide +kernel
theorem dX8_wishesUnlike_24 : decode cX8_wishesUnlike 24 = .ok (.if_icmp .ne 27, 3) := by decide +kernel
theorem dX8_wishesUnlike_27 : decode cX8_wishesUnlike 27 = .ok (.iload_n 2, 1) := by decide +kernel
theorem dX8_wishesUnlike_28 : decode cX8_wishesUnlike 28 = .ok (.iconst (-1), 1) := by decide +kernel
theorem dX8_wishesUnlike_29 : decode cX8_wishesUnlike 29 = .ok (.if_icmp .eq 15, 3) := by decide +kernel
theorem dX8_wishesUnlike_32 : decode cX8_wishesUnlike 32 = .ok (.aload_n 0, 1) := by decide +kernel
theorem dX8_wishesUnlike_33 : decode cX8_wishesUnlike 33 = .ok (.getfield 27, 3) := by decide +kernel
theorem dX8_wishesUnlike_36 : decode cX8_wishesUnlike 36 = .ok (.iload_n 3, 1) := by decide +kernel
theorem dX8_wishesUnlike_37 : decode cX8_wishesUnlike 37 = .ok (.iaload, 1) := by decide +kernel
theorem dX8_wishesUnlike_38 : decode cX8_wishesUnlike 38 = .ok (.iload_n 2, 1) := by decide +kernel
theorem dX8_wishesUnlike_39 : decode cX8_wishesUnlike 39 = .ok (.if_icmp .eq 5, 3) := by decide +kernel
theorem dX8_wishesUnlike_42 : decode cX8_wishesUnlike 42 = .ok (.iconst 1, 1) := by decide +kernel
theorem dX8_wishesUnlike_43 : decode cX8_wishesUnlike 43 = .ok (.ireturn, 1) := by decide +kernel
theorem dX8_wishesUnlike_44 : decode cX8_wishesUnlike 44 = .ok (.aload_n 0, 1) := by decide +kernel
theorem dX8_wishesUnlike_45 : decode cX8_wishesUnlike 45 = .ok (.getfield 27, 3) := by decide +kernel
theorem dX8_wishesUnlike_48 : decode cX8_wishesUnlike 48 = .ok (.iload_n 3, 1) := by decide +kernel
theorem dX8_wishesUnlike_49 : decode cX8_wishesUnlike 49 = .ok (.iaload, 1) := by decide +kernel
theorem dX8_wishesUnlike_50 : decode cX8_wishesUnlike 50 = .ok (.istore_n 2, 1) := by decide +kernel
theorem dX8_wishesUnlike_51 : decode cX8_wishesUnlike 51 = .ok (.iinc 3 1, 3) := by decide +kernel
theorem dX8_wishesUnlike_54 : decode cX8_wishesUnlike 54 = .ok (.goto (-50), 3) := by decide +kernel
theorem dX8_wishesUnlike_57 : decode cX8_wishesUnlike 57 = .ok (.iconst 0, 1) := by decide +kernel
theorem dX8_wishesUnlike_58 : decode cX8_wishesUnlike 58 = .ok (.ireturn, 1) := by decide +kernel
theorem rl_m1 : RI (-1) (-1) (-1) := by unfold RI; decide +kernel
theorem rl_0 : RI 0 0 0 := by unfold RI; decide +kernel
theorem rl_1 : RI 1 1 1 := by unfold RI; decide +kernel
theorem rl_2 : RI 2 2 2 := by unfold RI; decide +kernel
theorem rl_3 : RI 3 3 3 := by unfold RI; decide +kernel
theorem rl_6 : RI 6 6 6 := by unfold RI; decide +kernel
theorem rl_7 : RI 7 7 7 := by unfold RI; decide +kernel
theorem rl_8 : RI 8 8 8 := by unfold RI; decide +kernel
theorem rl_10 : RI 10 10 10 := by unfold RI; decide +kernel
theorem rl_36 : RI 36 36 36 := by unfold RI; decide +kernel
theorem rl_99 : RI 99 99 99 := by unfold RI; decide +kernel
