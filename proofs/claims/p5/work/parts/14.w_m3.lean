theorem inX0 : ∀ w ∈ u_ws RX0 TX0 5, w ∈ gT := by decide +kernel
theorem inX1 : ∀ w ∈ u_ws RX1 TX1 3, w ∈ gT := by decide +kernel
theorem inX2 : ∀ w ∈ u_ws RX2 TX2 3, w ∈ gT := by decide +kernel
theorem inX4 : ∀ w ∈ u_ws RX4 TX4 2, w ∈ gT := by decide +kernel
theorem inX5 : ∀ w ∈ u_ws RX5 TX5 5, w ∈ gT := by decide +kernel
theorem inX6 : ∀ w ∈ u_ws RX6 TX6 2, w ∈ gT := by decide +kernel
theorem tw_8 : Cond.initialized RX4 ∈ gT := gT_t (List.mem_of_getElem? (i := 8) (by decide +kernel)) (by decide +kernel)
theorem tw_10 : Cond.initialized RX6 ∈ gT := gT_t (List.mem_of_getElem? (i := 10) (by decide +kernel)) (by decide +kernel)
theorem tw_11 : Cond.initialized RX3 ∈ gT := gT_t (List.mem_of_getElem? (i := 11) (by decide +kernel)) (by decide +kernel)
theorem tw_23 : Cond.initialized RX5 ∈ gT := gT_t (List.mem_of_getElem? (i := 23) (by decide +kernel)) (by decide +kernel)
theorem tw_142 : Cond.fieldLink RX0 (11 : Nat) "WonderParcels$Book" "what" "[I" ∈ gT := gT_t (List.mem_of_getElem? (i := 142) (by decide +kernel)) (by decide +kernel)
theorem tw_143 : Cond.fieldLink RX0 (15 : Nat) "WonderParcels$Book" "first" "[I" ∈ gT := gT_t (List.mem_of_getElem? (i := 143) (by decide +kernel)) (by decide +kernel)
theorem tw_144 : Cond.fieldLink RX0 (18 : Nat) "WonderParcels$Book" "second" "[I" ∈ gT := gT_t (List.mem_of_getElem? (i := 144) (by decide +kernel)) (by decide +kernel)
theorem tw_145 : Cond.fieldLink RX0 (21 : Nat) "WonderParcels$Book" "lines" "I" ∈ gT := gT_t (List.mem_of_getElem? (i := 145) (by decide +kernel)) (by decide +kernel)
theorem tw_166 : Cond.methodLink RX4 (18 : Nat) yJ7_fill_53178 ∈ gT := gT_t (List.mem_of_getElem? (i := 166) (by decide +kernel)) (by decide +kernel)
theorem tw_169 : Cond.fieldLink RX4 (9 : Nat) "WonderParcels$Rooms" "idea" "[I" ∈ gT := gT_t (List.mem_of_getElem? (i := 169) (by decide +kernel)) (by decide +kernel)
theorem tw_170 : Cond.fieldLink RX4 (15 : Nat) "WonderParcels$Rooms" "room" "[I" ∈ gT := gT_t (List.mem_of_getElem? (i := 170) (by decide +kernel)) (by decide +kernel)
theorem tw_183 : Cond.fieldLink RX6 (9 : Nat) "WonderParcels$Tag" "bytes" "[B" ∈ gT := gT_t (List.mem_of_getElem? (i := 183) (by decide +kernel)) (by decide +kernel)
theorem tw_185 : Cond.fieldLink RX6 (13 : Nat) "WonderParcels$Tag" "length" "I" ∈ gT := gT_t (List.mem_of_getElem? (i := 185) (by decide +kernel)) (by decide +kernel)
theorem tw_198 : Cond.fieldLink RX3 (9 : Nat) "WonderParcels$Post" "MOST_OF_SORT" "[I" ∈ gT := gT_t (List.mem_of_getElem? (i := 198) (by decide +kernel)) (by decide +kernel)
theorem tw_200 : Cond.fieldLink RX3 (15 : Nat) "WonderParcels$Post" "names" "[J" ∈ gT := gT_t (List.mem_of_getElem? (i := 200) (by decide +kernel)) (by decide +kernel)
theorem tw_201 : Cond.fieldLink RX3 (19 : Nat) "WonderParcels$Post" "many" "[I" ∈ gT := gT_t (List.mem_of_getElem? (i := 201) (by decide +kernel)) (by decide +kernel)
theorem tw_208 : Cond.fieldLink RX3 (25 : Nat) "WonderParcels$Post" "quarrel" "[I" ∈ gT := gT_t (List.mem_of_getElem? (i := 208) (by decide +kernel)) (by decide +kernel)
theorem tw_219 : Cond.fieldLink RX3 (38 : Nat) "WonderParcels$Post" "leakTold" "Z" ∈ gT := gT_t (List.mem_of_getElem? (i := 219) (by decide +kernel)) (by decide +kernel)
theorem tw_220 : Cond.fieldLink RX3 (42 : Nat) "WonderParcels$Post" "guessTold" "Z" ∈ gT := gT_t (List.mem_of_getElem? (i := 220) (by decide +kernel)) (by decide +kernel)
theorem tw_313 : Cond.fieldLink RX1 (13 : Nat) "WonderParcels$History" "worlds" "[LWonderParcels$World;" ∈ gT := gT_t (List.mem_of_getElem? (i := 313) (by decide +kernel)) (by decide +kernel)
theorem tw_314 : Cond.fieldLink RX1 (17 : Nat) "WonderParcels$History" "next" "I" ∈ gT := gT_t (List.mem_of_getElem? (i := 314) (by decide +kernel)) (by decide +kernel)
theorem tw_315 : Cond.fieldLink RX1 (21 : Nat) "WonderParcels$History" "kept" "I" ∈ gT := gT_t (List.mem_of_getElem? (i := 315) (by decide +kernel)) (by decide +kernel)
theorem tw_332 : Cond.fieldLink RX2 (22 : Nat) "WonderParcels$Image" "world" "LWonderParcels$World;" ∈ gT := gT_t (List.mem_of_getElem? (i := 332) (by decide +kernel)) (by decide +kernel)
theorem tw_334 : Cond.fieldLink RX2 (7 : Nat) "WonderParcels$Image" "sentence" "LWonderParcels$Sentence;" ∈ gT := gT_t (List.mem_of_getElem? (i := 334) (by decide +kernel)) (by decide +kernel)
theorem tw_336 : Cond.fieldLink RX2 (13 : Nat) "WonderParcels$Image" "taken" "Z" ∈ gT := gT_t (List.mem_of_getElem? (i := 336) (by decide +kernel)) (by decide +kernel)
theorem tw_421 : Cond.instanceMethod yX7_startText ∈ gT := gT_t (List.mem_of_getElem? (i := 421) (by decide +kernel)) (by decide +kernel)
theorem tw_422 : Cond.selects RX7 yX7_startText yX7_startText ∈ gT := gT_t (List.mem_of_getElem? (i := 422) (by decide +kernel)) (by decide +kernel)
theorem tw_423 : Cond.code yX7_startText cX7_startText 2 none ∈ gT := gT_t (List.mem_of_getElem? (i := 423) (by decide +kernel)) (by decide +kernel)
theorem tw_439 : Cond.instanceMethod yX7_goesOn ∈ gT := gT_t (List.mem_of_getElem? (i := 439) (by decide +kernel)) (by decide +kernel)
theorem tw_440 : Cond.selects RX7 yX7_goesOn yX7_goesOn ∈ gT := gT_t (List.mem_of_getElem? (i := 440) (by decide +kernel)) (by decide +kernel)
theorem tw_441 : Cond.code yX7_goesOn cX7_goesOn 1 (some .boolean) ∈ gT := gT_t (List.mem_of_getElem? (i := 441) (by decide +kernel)) (by decide +kernel)
theorem tw_450 : Cond.methodLink RX3 (90 : Nat) yX7_refuse ∈ gT := gT_t (List.mem_of_getElem? (i := 450) (by decide +kernel)) (by decide +kernel)
theorem tw_451 : Cond.methodLink RX3 (93 : Nat) yX7_pass ∈ gT := gT_t (List.mem_of_getElem? (i := 451) (by decide +kernel)) (by decide +kernel)
theorem tw_456 : Cond.methodLink RX3 (130 : Nat) yX7_nameAhead ∈ gT := gT_t (List.mem_of_getElem? (i := 456) (by decide +kernel)) (by decide +kernel)
theorem tw_457 : Cond.instanceMethod yX7_nameAhead ∈ gT := gT_t (List.mem_of_getElem? (i := 457) (by decide +kernel)) (by decide +kernel)
theorem tw_458 : Cond.selects RX7 yX7_nameAhead yX7_nameAhead ∈ gT := gT_t (List.mem_of_getElem? (i := 458) (by decide +kernel)) (by decide +kernel)
theorem tw_459 : Cond.code yX7_nameAhead cX7_nameAhead 4 (some .int) ∈ gT := gT_t (List.mem_of_getElem? (i := 459) (by decide +kernel)) (by decide +kernel)
theorem tw_460 : Cond.methodLink RX7 (80 : Nat) yX3_numberOf ∈ gT := gT_t (List.mem_of_getElem? (i := 460) (by decide +kernel)) (by decide +kernel)
theorem tw_461 : Cond.instanceMethod yX3_numberOf ∈ gT := gT_t (List.mem_of_getElem? (i := 461) (by decide +kernel)) (by decide +kernel)
theorem tw_462 : Cond.selects RX3 yX3_numberOf yX3_numberOf ∈ gT := gT_t (List.mem_of_getElem? (i := 462) (by decide +kernel)) (by decide +kernel)
theorem tw_463 : Cond.code yX3_numberOf cX3_numberOf 5 (some .int) ∈ gT := gT_t (List.mem_of_getElem? (i := 463) (by decide +kernel)) (by decide +kernel)
theorem tw_464 : Cond.methodLink RX3 (106 : Nat) yX7_takeName ∈ gT := gT_t (List.mem_of_getElem? (i := 464) (by decide +kernel)) (by decide +kernel)
theorem tw_465 : Cond.instanceMethod yX7_takeName ∈ gT := gT_t (List.mem_of_getElem? (i := 465) (by decide +kernel)) (by decide +kernel)
theorem tw_466 : Cond.selects RX7 yX7_takeName yX7_takeName ∈ gT := gT_t (List.mem_of_getElem? (i := 466) (by decide +kernel)) (by decide +kernel)
theorem tw_467 : Cond.code yX7_takeName cX7_takeName 4 (some .int) ∈ gT := gT_t (List.mem_of_getElem? (i := 467) (by decide +kernel)) (by decide +kernel)
theorem tw_468 : Cond.methodLink RX7 (86 : Nat) yX7_nameAhead ∈ gT := gT_t (List.mem_of_getElem? (i := 468) (by decide +kernel)) (by decide +kernel)
theorem tw_473 : Cond.methodLink RX3 (136 : Nat) yX8_has ∈ gT := gT_t (List.mem_of_getElem? (i := 473) (by decide +kernel)) (by decide +kernel)
theorem tw_477 : Cond.methodLink RX3 (79 : Nat) yX7_takeNumber ∈ gT := gT_t (List.mem_of_getElem? (i := 477) (by decide +kernel)) (by decide +kernel)
theorem tw_478 : Cond.instanceMethod yX7_takeNumber ∈ gT := gT_t (List.mem_of_getElem? (i := 478) (by decide +kernel)) (by decide +kernel)
theorem tw_479 : Cond.selects RX7 yX7_takeNumber yX7_takeNumber ∈ gT := gT_t (List.mem_of_getElem? (i := 479) (by decide +kernel)) (by decide +kernel)
theorem tw_480 : Cond.code yX7_takeNumber cX7_takeNumber 4 (some .int) ∈ gT := gT_t (List.mem_of_getElem? (i := 480) (by decide +kernel)) (by decide +kernel)
theorem tw_481 : Cond.methodLink RX3 (139 : Nat) yX8_put ∈ gT := gT_t (List.mem_of_getElem? (i := 481) (by decide +kernel)) (by decide +kernel)
theorem tw_495 : Cond.methodLink RX3 (143 : Nat) yX3_quarrel ∈ gT := gT_t (List.mem_of_getElem? (i := 495) (by decide +kernel)) (by decide +kernel)
theorem tw_497 : Cond.instanceMethod yX3_quarrel ∈ gT := gT_t (List.mem_of_getElem? (i := 497) (by decide +kernel)) (by decide +kernel)
theorem tw_498 : Cond.code yX3_quarrel cX3_quarrel 3 (some .boolean) ∈ gT := gT_t (List.mem_of_getElem? (i := 498) (by decide +kernel)) (by decide +kernel)
theorem tw_511 : Cond.methodLink RX3 (126 : Nat) yX3_numberOf ∈ gT := gT_t (List.mem_of_getElem? (i := 511) (by decide +kernel)) (by decide +kernel)
theorem tw_514 : Cond.instanceMethod yX7_passOnly ∈ gT := gT_t (List.mem_of_getElem? (i := 514) (by decide +kernel)) (by decide +kernel)
theorem tw_515 : Cond.selects RX7 yX7_passOnly yX7_passOnly ∈ gT := gT_t (List.mem_of_getElem? (i := 515) (by decide +kernel)) (by decide +kernel)
theorem tw_516 : Cond.code yX7_passOnly cX7_passOnly 2 none ∈ gT := gT_t (List.mem_of_getElem? (i := 516) (by decide +kernel)) (by decide +kernel)
theorem tw_522 : Cond.instanceMethod yX8_takeFrom ∈ gT := gT_t (List.mem_of_getElem? (i := 522) (by decide +kernel)) (by decide +kernel)
theorem tw_523 : Cond.selects RX8 yX8_takeFrom yX8_takeFrom ∈ gT := gT_t (List.mem_of_getElem? (i := 523) (by decide +kernel)) (by decide +kernel)
theorem tw_524 : Cond.code yX8_takeFrom cX8_takeFrom 2 none ∈ gT := gT_t (List.mem_of_getElem? (i := 524) (by decide +kernel)) (by decide +kernel)
theorem tw_610 : Cond.methodLink RX1 (27 : Nat) yX8_takeFrom ∈ gT := gT_t (List.mem_of_getElem? (i := 610) (by decide +kernel)) (by decide +kernel)
theorem tw_623 : Cond.methodLink RX1 (31 : Nat) yJ9_min_7cf53 ∈ gT := gT_t (List.mem_of_getElem? (i := 623) (by decide +kernel)) (by decide +kernel)
theorem tw_645 : Cond.instanceMethod yX8_whyNoGuess ∈ gT := gT_t (List.mem_of_getElem? (i := 645) (by decide +kernel)) (by decide +kernel)
theorem tw_646 : Cond.selects RX8 yX8_whyNoGuess yX8_whyNoGuess ∈ gT := gT_t (List.mem_of_getElem? (i := 646) (by decide +kernel)) (by decide +kernel)
theorem tw_647 : Cond.code yX8_whyNoGuess cX8_whyNoGuess 2 (some .int) ∈ gT := gT_t (List.mem_of_getElem? (i := 647) (by decide +kernel)) (by decide +kernel)
theorem tw_649 : Cond.instanceMethod yX8_guessAt ∈ gT := gT_t (List.mem_of_getElem? (i := 649) (by decide +kernel)) (by decide +kernel)
theorem tw_650 : Cond.selects RX8 yX8_guessAt yX8_guessAt ∈ gT := gT_t (List.mem_of_getElem? (i := 650) (by decide +kernel)) (by decide +kernel)
theorem tw_651 : Cond.code yX8_guessAt cX8_guessAt 4 (some .boolean) ∈ gT := gT_t (List.mem_of_getElem? (i := 651) (by decide +kernel)) (by decide +kernel)
theorem tw_793 : Cond.methodLink RX4 (35 : Nat) yX8_isNow ∈ gT := gT_t (List.mem_of_getElem? (i := 793) (by decide +kernel)) (by decide +kernel)
theorem tw_794 : Cond.methodLink RX4 (39 : Nat) yX4_canPlace ∈ gT := gT_t (List.mem_of_getElem? (i := 794) (by decide +kernel)) (by decide +kernel)
theorem tw_796 : Cond.instanceMethod yX4_canPlace ∈ gT := gT_t (List.mem_of_getElem? (i := 796) (by decide +kernel)) (by decide +kernel)
theorem tw_797 : Cond.code yX4_canPlace cX4_canPlace 5 (some .boolean) ∈ gT := gT_t (List.mem_of_getElem? (i := 797) (by decide +kernel)) (by decide +kernel)
theorem tw_798 : Cond.methodLink RX4 (43 : Nat) yX4_isQuiet ∈ gT := gT_t (List.mem_of_getElem? (i := 798) (by decide +kernel)) (by decide +kernel)
theorem tw_800 : Cond.instanceMethod yX4_isQuiet ∈ gT := gT_t (List.mem_of_getElem? (i := 800) (by decide +kernel)) (by decide +kernel)
theorem tw_801 : Cond.code yX4_isQuiet cX4_isQuiet 6 (some .boolean) ∈ gT := gT_t (List.mem_of_getElem? (i := 801) (by decide +kernel)) (by decide +kernel)
theorem tw_841 : Cond.methodLink RX6 (26 : Nat) yX6_put ∈ gT := gT_t (List.mem_of_getElem? (i := 841) (by decide +kernel)) (by decide +kernel)
theorem tw_843 : Cond.instanceMethod yX6_put ∈ gT := gT_t (List.mem_of_getElem? (i := 843) (by decide +kernel)) (by decide +kernel)
theorem tw_844 : Cond.code yX6_put cX6_put 2 none ∈ gT := gT_t (List.mem_of_getElem? (i := 844) (by decide +kernel)) (by decide +kernel)
theorem tw_897 : Cond.methodLink RX0 (59 : Nat) yX7_refuse ∈ gT := gT_t (List.mem_of_getElem? (i := 897) (by decide +kernel)) (by decide +kernel)
theorem tw_898 : Cond.methodLink RX0 (62 : Nat) yX7_pass ∈ gT := gT_t (List.mem_of_getElem? (i := 898) (by decide +kernel)) (by decide +kernel)
theorem tw_932 : Cond.methodLink RX0 (115 : Nat) yX8_whyNoGuess ∈ gT := gT_t (List.mem_of_getElem? (i := 932) (by decide +kernel)) (by decide +kernel)
theorem tw_933 : Cond.methodLink RX0 (118 : Nat) yX8_guessAt ∈ gT := gT_t (List.mem_of_getElem? (i := 933) (by decide +kernel)) (by decide +kernel)
theorem tw_951 : Cond.fieldLink RX5 (11 : Nat) "WonderParcels$Sentence" "what" "[I" ∈ gT := gT_t (List.mem_of_getElem? (i := 951) (by decide +kernel)) (by decide +kernel)
theorem tw_952 : Cond.fieldLink RX5 (15 : Nat) "WonderParcels$Sentence" "sign" "[I" ∈ gT := gT_t (List.mem_of_getElem? (i := 952) (by decide +kernel)) (by decide +kernel)
theorem tw_953 : Cond.fieldLink RX5 (18 : Nat) "WonderParcels$Sentence" "value" "[I" ∈ gT := gT_t (List.mem_of_getElem? (i := 953) (by decide +kernel)) (by decide +kernel)
theorem tw_954 : Cond.fieldLink RX5 (21 : Nat) "WonderParcels$Sentence" "steps" "I" ∈ gT := gT_t (List.mem_of_getElem? (i := 954) (by decide +kernel)) (by decide +kernel)
theorem tw_955 : Cond.fieldLink RX5 (25 : Nat) "WonderParcels$Sentence" "ones" "I" ∈ gT := gT_t (List.mem_of_getElem? (i := 955) (by decide +kernel)) (by decide +kernel)
theorem tw_972 : Cond.methodLink RX5 (28 : Nat) yX7_startText ∈ gT := gT_t (List.mem_of_getElem? (i := 972) (by decide +kernel)) (by decide +kernel)
theorem tw_973 : Cond.methodLink RX5 (34 : Nat) yX5_readCond ∈ gT := gT_t (List.mem_of_getElem? (i := 973) (by decide +kernel)) (by decide +kernel)
theorem tw_975 : Cond.instanceMethod yX5_readCond ∈ gT := gT_t (List.mem_of_getElem? (i := 975) (by decide +kernel)) (by decide +kernel)
theorem tw_976 : Cond.code yX5_readCond cX5_readCond 7 none ∈ gT := gT_t (List.mem_of_getElem? (i := 976) (by decide +kernel)) (by decide +kernel)
theorem tw_977 : Cond.methodLink RX5 (45 : Nat) yX5_readOne ∈ gT := gT_t (List.mem_of_getElem? (i := 977) (by decide +kernel)) (by decide +kernel)
theorem tw_979 : Cond.instanceMethod yX5_readOne ∈ gT := gT_t (List.mem_of_getElem? (i := 979) (by decide +kernel)) (by decide +kernel)
theorem tw_980 : Cond.code yX5_readOne cX5_readOne 5 none ∈ gT := gT_t (List.mem_of_getElem? (i := 980) (by decide +kernel)) (by decide +kernel)
theorem tw_981 : Cond.methodLink RX5 (42 : Nat) yX7_refuse ∈ gT := gT_t (List.mem_of_getElem? (i := 981) (by decide +kernel)) (by decide +kernel)
theorem tw_982 : Cond.methodLink RX5 (52 : Nat) yX7_pass ∈ gT := gT_t (List.mem_of_getElem? (i := 982) (by decide +kernel)) (by decide +kernel)
theorem tw_983 : Cond.methodLink RX5 (55 : Nat) yX5_addStep ∈ gT := gT_t (List.mem_of_getElem? (i := 983) (by decide +kernel)) (by decide +kernel)
theorem tw_985 : Cond.instanceMethod yX5_addStep ∈ gT := gT_t (List.mem_of_getElem? (i := 985) (by decide +kernel)) (by decide +kernel)
theorem tw_986 : Cond.code yX5_addStep cX5_addStep 4 none ∈ gT := gT_t (List.mem_of_getElem? (i := 986) (by decide +kernel)) (by decide +kernel)
theorem tw_987 : Cond.methodLink RX5 (65 : Nat) yX7_passOnly ∈ gT := gT_t (List.mem_of_getElem? (i := 987) (by decide +kernel)) (by decide +kernel)
theorem tw_988 : Cond.methodLink RX5 (68 : Nat) yX5_readPlain ∈ gT := gT_t (List.mem_of_getElem? (i := 988) (by decide +kernel)) (by decide +kernel)
theorem tw_990 : Cond.instanceMethod yX5_readPlain ∈ gT := gT_t (List.mem_of_getElem? (i := 990) (by decide +kernel)) (by decide +kernel)
theorem tw_991 : Cond.code yX5_readPlain cX5_readPlain 5 none ∈ gT := gT_t (List.mem_of_getElem? (i := 991) (by decide +kernel)) (by decide +kernel)
theorem tw_992 : Cond.methodLink RX5 (71 : Nat) yX7_takeName ∈ gT := gT_t (List.mem_of_getElem? (i := 992) (by decide +kernel)) (by decide +kernel)
theorem tw_993 : Cond.methodLink RX5 (75 : Nat) yX7_takeNumber ∈ gT := gT_t (List.mem_of_getElem? (i := 993) (by decide +kernel)) (by decide +kernel)
theorem tw_994 : Cond.methodLink RX5 (48 : Nat) yX7_sees ∈ gT := gT_t (List.mem_of_getElem? (i := 994) (by decide +kernel)) (by decide +kernel)
theorem tw_995 : Cond.instanceMethod yX7_sees ∈ gT := gT_t (List.mem_of_getElem? (i := 995) (by decide +kernel)) (by decide +kernel)
theorem tw_996 : Cond.selects RX7 yX7_sees yX7_sees ∈ gT := gT_t (List.mem_of_getElem? (i := 996) (by decide +kernel)) (by decide +kernel)
theorem tw_997 : Cond.code yX7_sees cX7_sees 2 (some .boolean) ∈ gT := gT_t (List.mem_of_getElem? (i := 997) (by decide +kernel)) (by decide +kernel)
theorem tw_998 : Cond.methodLink RX5 (38 : Nat) yX7_goesOn ∈ gT := gT_t (List.mem_of_getElem? (i := 998) (by decide +kernel)) (by decide +kernel)
theorem tw_1007 : Cond.methodLink RX5 (79 : Nat) yX5_isSo ∈ gT := gT_t (List.mem_of_getElem? (i := 1007) (by decide +kernel)) (by decide +kernel)
theorem tw_1009 : Cond.instanceMethod yX5_isSo ∈ gT := gT_t (List.mem_of_getElem? (i := 1009) (by decide +kernel)) (by decide +kernel)
theorem tw_1010 : Cond.code yX5_isSo cX5_isSo 5 (some .boolean) ∈ gT := gT_t (List.mem_of_getElem? (i := 1010) (by decide +kernel)) (by decide +kernel)
theorem tw_1011 : Cond.methodLink RX5 (83 : Nat) yX8_isOpen ∈ gT := gT_t (List.mem_of_getElem? (i := 1011) (by decide +kernel)) (by decide +kernel)
theorem tw_1012 : Cond.methodLink RX5 (88 : Nat) yX8_isNow ∈ gT := gT_t (List.mem_of_getElem? (i := 1012) (by decide +kernel)) (by decide +kernel)
theorem tw_1013 : Cond.methodLink RX5 (92 : Nat) yX8_whoSitsBy ∈ gT := gT_t (List.mem_of_getElem? (i := 1013) (by decide +kernel)) (by decide +kernel)
theorem tw_1014 : Cond.methodLink RX5 (98 : Nat) yX8_sizeOf ∈ gT := gT_t (List.mem_of_getElem? (i := 1014) (by decide +kernel)) (by decide +kernel)
theorem tw_1015 : Cond.methodLink RX5 (101 : Nat) yX5_compares ∈ gT := gT_t (List.mem_of_getElem? (i := 1015) (by decide +kernel)) (by decide +kernel)
theorem tw_1016 : Cond.static yX5_compares ∈ gT := gT_t (List.mem_of_getElem? (i := 1016) (by decide +kernel)) (by decide +kernel)
theorem tw_1017 : Cond.code yX5_compares cX5_compares 3 (some .boolean) ∈ gT := gT_t (List.mem_of_getElem? (i := 1017) (by decide +kernel)) (by decide +kernel)
theorem tw_1026 : Cond.methodLink RX2 (26 : Nat) yX8_takeFrom ∈ gT := gT_t (List.mem_of_getElem? (i := 1026) (by decide +kernel)) (by decide +kernel)
theorem tn_96 : Cond.fieldLinkNest RX5 (59 : Nat) "WonderParcels$Tape" "kind" "I" "WonderParcels" ∈ nW := nW_t (List.mem_of_getElem? (i := 96) (by decide +kernel)) (by decide +kernel)
theorem tn_102 : Cond.fieldLinkNest RX0 (65 : Nat) "WonderParcels$Tape" "fault" "I" "WonderParcels" ∈ nW := nW_t (List.mem_of_getElem? (i := 102) (by decide +kernel)) (by decide +kernel)
theorem tn_103 : Cond.fieldLinkNest RX5 (62 : Nat) "WonderParcels$Tape" "fault" "I" "WonderParcels" ∈ nW := nW_t (List.mem_of_getElem? (i := 103) (by decide +kernel)) (by decide +kernel)
theorem tn_105 : Cond.fieldLinkNest RX3 (96 : Nat) "WonderParcels$Tape" "fault" "I" "WonderParcels" ∈ nW := nW_t (List.mem_of_getElem? (i := 105) (by decide +kernel)) (by decide +kernel)
theorem tn_202 : Cond.fieldLinkNest RX4 (30 : Nat) "WonderParcels$Post" "many" "[I" "WonderParcels" ∈ nW := nW_t (List.mem_of_getElem? (i := 202) (by decide +kernel)) (by decide +kernel)
theorem tn_248 : Cond.fieldLinkNest RX4 (24 : Nat) "WonderParcels$World" "post" "LWonderParcels$Post;" "WonderParcels" ∈ nW := nW_t (List.mem_of_getElem? (i := 248) (by decide +kernel)) (by decide +kernel)
theorem tn_256 : Cond.fieldLinkNest RX5 (95 : Nat) "WonderParcels$World" "room" "[I" "WonderParcels" ∈ nW := nW_t (List.mem_of_getElem? (i := 256) (by decide +kernel)) (by decide +kernel)
theorem tn_259 : Cond.fieldLinkNest RX5 (105 : Nat) "WonderParcels$World" "bulge" "[I" "WonderParcels" ∈ nW := nW_t (List.mem_of_getElem? (i := 259) (by decide +kernel)) (by decide +kernel)
theorem tn_264 : Cond.fieldLinkNest RX5 (108 : Nat) "WonderParcels$World" "turned" "[I" "WonderParcels" ∈ nW := nW_t (List.mem_of_getElem? (i := 264) (by decide +kernel)) (by decide +kernel)
theorem tn_270 : Cond.fieldLinkNest RX3 (133 : Nat) "WonderParcels$World" "seat" "[I" "WonderParcels" ∈ nW := nW_t (List.mem_of_getElem? (i := 270) (by decide +kernel)) (by decide +kernel)
theorem tn_802 : Cond.methodLinkNest RX4 (46 : Nat) yX3_quarrel "WonderParcels" ∈ nW := nW_t (List.mem_of_getElem? (i := 802) (by decide +kernel)) (by decide +kernel)
theorem ts_5 : Cond.selects RX3 yX3_quarrel yX3_quarrel ∈ gT := gT_s (by decide +kernel) (by decide +kernel)
theorem ts_20 : Cond.selects RX4 yX4_canPlace yX4_canPlace ∈ gT := gT_s (by decide +kernel) (by decide +kernel)
theorem ts_21 : Cond.selects RX4 yX4_isQuiet yX4_isQuiet ∈ gT := gT_s (by decide +kernel) (by decide +kernel)
theorem ts_23 : Cond.selects RX6 yX6_put yX6_put ∈ gT := gT_s (by decide +kernel) (by decide +kernel)
theorem ts_31 : Cond.selects RX5 yX5_readCond yX5_readCond ∈ gT := gT_s (by decide +kernel) (by decide +kernel)
theorem ts_32 : Cond.selects RX5 yX5_readOne yX5_readOne ∈ gT := gT_s (by decide +kernel) (by decide +kernel)
theorem ts_33 : Cond.selects RX5 yX5_addStep yX5_addStep ∈ gT := gT_s (by decide +kernel) (by decide +kernel)
theorem ts_34 : Cond.selects RX5 yX5_readPlain yX5_readPlain ∈ gT := gT_s (by decide +kernel) (by decide +kernel)
theorem ts_35 : Cond.selects RX5 yX5_isSo yX5_isSo ∈ gT := gT_s (by decide +kernel) (by decide +kernel)
theorem dX0_addLine_0 : decode cX0_addLine 0 = .ok (.aload_n 0, 1) := by decide +kernel
theorem dX0_addLine_1 : decode cX0_addLine 1 = .ok (.getfield 21, 3) := by decide +kernel
theorem dX0_addLine_4 : decode cX0_addLine 4 = .ok (.bipush 40, 2) := by decide +kernel
theorem dX0_addLine_6 : decode cX0_addLine 6 = .ok (.if_icmp .ge 43, 3) := by decide +kernel
theorem dX0_addLine_9 : decode cX0_addLine 9 = .ok (.aload_n 0, 1) := by decide +kernel
theorem dX0_addLine_10 : decode cX0_addLine 10 = .ok (.getfield 11, 3) := by decide +kernel
theorem dX0_addLine_13 : decode cX0_addLine 13 = .ok (.aload_n 0, 1) := by decide +kernel
theorem dX0_addLine_14 : decode cX0_addLine 14 = .ok (.getfield 21, 3) := by decide +kernel
theorem dX0_addLine_17 : decode cX0_addLine 17 = .ok (.iload_n 1, 1) := by decide +kernel
theorem dX0_addLine_18 : decode cX0_addLine 18 = .ok (.iastore, 1) := by decide +kernel
theorem dX0_addLine_19 : decode cX0_addLine 19 = .ok (.aload_n 0, 1) := by decide +kernel
theorem dX0_addLine_20 : decode cX0_addLine 20 = .ok (.getfield 15, 3) := by decide +kernel
theorem dX0_addLine_23 : decode cX0_addLine 23 = .ok (.aload_n 0, 1) := by decide +kernel
theorem dX0_addLine_24 : decode cX0_addLine 24 = .ok (.getfield 21, 3) := by decide +kernel
theorem dX0_addLine_27 : decode cX0_addLine 27 = .ok (.iload_n 2, 1) := by decide +kernel
theorem dX0_addLine_28 : decode cX0_addLine 28 = .ok (.iastore, 1) := by decide +kernel
theorem dX0_addLine_29 : decode cX0_addLine 29 = .ok (.aload_n 0, 1) := by decide +kernel
theorem dX0_addLine_30 : decode cX0_addLine 30 = .ok (.getfield 18, 3) := by decide +kernel
theorem dX0_addLine_33 : decode cX0_addLine 33 = .ok (.aload_n 0, 1) := by decide +kernel
theorem dX0_addLine_34 : decode cX0_addLine 34 = .ok (.getfield 21, 3) := by decide +kernel
theorem dX0_addLine_37 : decode cX0_addLine 37 = .ok (.iload_n 3, 1) := by decide +kernel
theorem dX0_addLine_38 : decode cX0_addLine 38 = .ok (.iastore, 1) := by decide +kernel
theorem dX0_addLine_39 : decode cX0_addLine 39 = .ok (.aload_n 0, 1) := by decide +kernel
theorem dX0_addLine_40 : decode cX0_addLine 40 = .ok (.dup, 1) := by decide +kernel
theorem dX0_addLine_41 : decode cX0_addLine 41 = .ok (.getfield 21, 3) := by decide +kernel
theorem dX0_addLine_44 : decode cX0_addLine 44 = .ok (.iconst 1, 1) := by decide +kernel
theorem dX0_addLine_45 : decode cX0_addLine 45 = .ok (.iadd, 1) := by decide +kernel
theorem dX0_addLine_46 : decode cX0_addLine 46 = .ok (.putfield 21, 3) := by decide +kernel
theorem dX0_addLine_49 : decode cX0_addLine 49 = .ok (.return_, 1) := by decide +kernel
theorem dX0_beginsLine_0 : decode cX0_beginsLine 0 = .ok (.iload_n 2, 1) := by decide +kernel
theorem dX0_beginsLine_1 : decode cX0_beginsLine 1 = .ok (.iconst 2, 1) := by decide +kernel
theorem dX0_beginsLine_2 : decode cX0_beginsLine 2 = .ok (.if_icmp .eq 25, 3) := by decide +kernel
theorem dX0_beginsLine_5 : decode cX0_beginsLine 5 = .ok (.iload_n 2, 1) := by decide +kernel
theorem dX0_beginsLine_6 : decode cX0_beginsLine 6 = .ok (.sipush 141, 3) := by decide +kernel
theorem dX0_beginsLine_9 : decode cX0_beginsLine 9 = .ok (.if_icmp .lt 10, 3) := by decide +kernel
theorem dX0_beginsLine_12 : decode cX0_beginsLine 12 = .ok (.iload_n 2, 1) := by decide +kernel
theorem dX0_beginsLine_13 : decode cX0_beginsLine 13 = .ok (.sipush 143, 3) := by decide +kernel
theorem dX0_beginsLine_16 : decode cX0_beginsLine 16 = .ok (.if_icmp .le 11, 3) := by decide +kernel
theorem dX0_beginsLine_19 : decode cX0_beginsLine 19 = .ok (.aload_n 1, 1) := by decide +kernel
theorem dX0_beginsLine_20 : decode cX0_beginsLine 20 = .ok (.iconst 1, 1) := by decide +kernel
theorem dX0_beginsLine_21 : decode cX0_beginsLine 21 = .ok (.invokevirtual 59, 3) := by decide +kernel
theorem dX0_beginsLine_24 : decode cX0_beginsLine 24 = .ok (.goto 17, 3) := by decide +kernel
theorem dX0_beginsLine_27 : decode cX0_beginsLine 27 = .ok (.aload_n 0, 1) := by decide +kernel
theorem dX0_beginsLine_28 : decode cX0_beginsLine 28 = .ok (.getfield 21, 3) := by decide +kernel
theorem dX0_beginsLine_31 : decode cX0_beginsLine 31 = .ok (.bipush 40, 2) := by decide +kernel
theorem dX0_beginsLine_33 : decode cX0_beginsLine 33 = .ok (.if_icmp .lt 8, 3) := by decide +kernel
theorem dX0_beginsLine_36 : decode cX0_beginsLine 36 = .ok (.aload_n 1, 1) := by decide +kernel
theorem dX0_beginsLine_37 : decode cX0_beginsLine 37 = .ok (.iconst 4, 1) := by decide +kernel
theorem dX0_beginsLine_38 : decode cX0_beginsLine 38 = .ok (.invokevirtual 59, 3) := by decide +kernel
theorem dX0_beginsLine_41 : decode cX0_beginsLine 41 = .ok (.aload_n 1, 1) := by decide +kernel
theorem dX0_beginsLine_42 : decode cX0_beginsLine 42 = .ok (.invokevirtual 62, 3) := by decide +kernel
theorem dX0_beginsLine_45 : decode cX0_beginsLine 45 = .ok (.aload_n 1, 1) := by decide +kernel
theorem dX0_beginsLine_46 : decode cX0_beginsLine 46 = .ok (.getfield 65, 3) := by decide +kernel
theorem dX0_beginsLine_49 : decode cX0_beginsLine 49 = .ok (.ifCond .ne 7, 3) := by decide +kernel
theorem dX0_beginsLine_52 : decode cX0_beginsLine 52 = .ok (.iconst 1, 1) := by decide +kernel
theorem dX0_beginsLine_53 : decode cX0_beginsLine 53 = .ok (.goto 4, 3) := by decide +kernel
theorem dX0_beginsLine_56 : decode cX0_beginsLine 56 = .ok (.iconst 0, 1) := by decide +kernel
theorem dX0_beginsLine_57 : decode cX0_beginsLine 57 = .ok (.ireturn, 1) := by decide +kernel
theorem dX0_guessIn_0 : decode cX0_guessIn 0 = .ok (.aload_n 0, 1) := by decide +kernel
theorem dX0_guessIn_1 : decode cX0_guessIn 1 = .ok (.iload_n 1, 1) := by decide +kernel
theorem dX0_guessIn_2 : decode cX0_guessIn 2 = .ok (.invokevirtual 115, 3) := by decide +kernel
theorem dX0_guessIn_5 : decode cX0_guessIn 5 = .ok (.istore_n 3, 1) := by decide +kernel
theorem dX0_guessIn_6 : decode cX0_guessIn 6 = .ok (.iload_n 3, 1) := by decide +kernel
theorem dX0_guessIn_7 : decode cX0_guessIn 7 = .ok (.ifCond .ne 10, 3) := by decide +kernel
theorem dX0_guessIn_10 : decode cX0_guessIn 10 = .ok (.aload_n 0, 1) := by decide +kernel
theorem dX0_guessIn_11 : decode cX0_guessIn 11 = .ok (.iload_n 1, 1) := by decide +kernel
theorem dX0_guessIn_12 : decode cX0_guessIn 12 = .ok (.iload_n 2, 1) := by decide +kernel
theorem dX0_guessIn_13 : decode cX0_guessIn 13 = .ok (.invokevirtual 118, 3) := by decide +kernel
theorem dX0_guessIn_16 : decode cX0_guessIn 16 = .ok (.pop, 1) := by decide +kernel
theorem dX0_guessIn_17 : decode cX0_guessIn 17 = .ok (.iload_n 3, 1) := by decide +kernel
theorem dX0_guessIn_18 : decode cX0_guessIn 18 = .ok (.ireturn, 1) := by decide +kernel
theorem dX1_forget_0 : decode cX1_forget 0 = .ok (.aload_n 0, 1) := by decide +kernel
theorem dX1_forget_1 : decode cX1_forget 1 = .ok (.iconst 0, 1) := by decide +kernel
theorem dX1_forget_2 : decode cX1_forget 2 = .ok (.putfield 21, 3) := by decide +kernel
theorem dX1_forget_5 : decode cX1_forget 5 = .ok (.return_, 1) := by decide +kernel
theorem dX1_giveBack_0 : decode cX1_giveBack 0 = .ok (.aload_n 0, 1) := by decide +kernel
theorem dX1_giveBack_1 : decode cX1_giveBack 1 = .ok (.getfield 21, 3) := by decide +kernel
theorem dX1_giveBack_4 : decode cX1_giveBack 4 = .ok (.ifCond .ne 5, 3) := by decide +kernel
theorem dX1_giveBack_7 : decode cX1_giveBack 7 = .ok (.iconst (-1), 1) := by decide +kernel
theorem dX1_giveBack_8 : decode cX1_giveBack 8 = .ok (.ireturn, 1) := by decide +kernel
theorem dX1_giveBack_9 : decode cX1_giveBack 9 = .ok (.aload_n 0, 1) := by decide +kernel
theorem dX1_giveBack_10 : decode cX1_giveBack 10 = .ok (.aload_n 0, 1) := by decide +kernel
theorem dX1_giveBack_11 : decode cX1_giveBack 11 = .ok (.getfield 17, 3) := by decide +kernel
theorem dX1_giveBack_14 : decode cX1_giveBack 14 = .ok (.bipush 9, 2) := by decide +kernel
theorem dX1_giveBack_16 : decode cX1_giveBack 16 = .ok (.iadd, 1) := by decide +kernel
theorem dX1_giveBack_17 : decode cX1_giveBack 17 = .ok (.iconst 1, 1) := by decide +kernel
theorem dX1_giveBack_18 : decode cX1_giveBack 18 = .ok (.isub, 1) := by decide +kernel
theorem dX1_giveBack_19 : decode cX1_giveBack 19 = .ok (.bipush 9, 2) := by decide +kernel
theorem dX1_giveBack_21 : decode cX1_giveBack 21 = .ok (.irem, 1) := by decide +kernel
theorem dX1_giveBack_22 : decode cX1_giveBack 22 = .ok (.putfield 17, 3) := by decide +kernel
theorem dX1_giveBack_25 : decode cX1_giveBack 25 = .ok (.aload_n 1, 1) := by decide +kernel
theorem dX1_giveBack_26 : decode cX1_giveBack 26 = .ok (.aload_n 0, 1) := by decide +kernel
theorem dX1_giveBack_27 : decode cX1_giveBack 27 = .ok (.getfield 13, 3) := by decide +kernel
theorem dX1_giveBack_30 : decode cX1_giveBack 30 = .ok (.aload_n 0, 1) := by decide +kernel
theorem dX1_giveBack_31 : decode cX1_giveBack 31 = .ok (.getfield 17, 3) := by decide +kernel
theorem dX1_giveBack_34 : decode cX1_giveBack 34 = .ok (.aaload, 1) := by decide +kernel
theorem dX1_giveBack_35 : decode cX1_giveBack 35 = .ok (.invokevirtual 27, 3) := by decide +kernel
theorem dX1_giveBack_38 : decode cX1_giveBack 38 = .ok (.aload_n 0, 1) := by decide +kernel
theorem dX1_giveBack_39 : decode cX1_giveBack 39 = .ok (.dup, 1) := by decide +kernel
theorem dX1_giveBack_40 : decode cX1_giveBack 40 = .ok (.getfield 21, 3) := by decide +kernel
theorem dX1_giveBack_43 : decode cX1_giveBack 43 = .ok (.iconst 1, 1) := by decide +kernel
theorem dX1_giveBack_44 : decode cX1_giveBack 44 = .ok (.isub, 1) := by decide +kernel
theorem dX1_giveBack_45 : decode cX1_giveBack 45 = .ok (.putfield 21, 3) := by decide +kernel
theorem dX1_giveBack_48 : decode cX1_giveBack 48 = .ok (.aload_n 0, 1) := by decide +kernel
theorem dX1_giveBack_49 : decode cX1_giveBack 49 = .ok (.getfield 21, 3) := by decide +kernel
theorem dX1_giveBack_52 : decode cX1_giveBack 52 = .ok (.ireturn, 1) := by decide +kernel
theorem dX1_keep_0 : decode cX1_keep 0 = .ok (.aload_n 0, 1) := by decide +kernel
theorem dX1_keep_1 : decode cX1_keep 1 = .ok (.aload_n 0, 1) := by decide +kernel
theorem dX1_keep_2 : decode cX1_keep 2 = .ok (.getfield 17, 3) := by decide +kernel
theorem dX1_keep_5 : decode cX1_keep 5 = .ok (.iconst 1, 1) := by decide +kernel
theorem dX1_keep_6 : decode cX1_keep 6 = .ok (.iadd, 1) := by decide +kernel
theorem dX1_keep_7 : decode cX1_keep 7 = .ok (.bipush 9, 2) := by decide +kernel
theorem dX1_keep_9 : decode cX1_keep 9 = .ok (.irem, 1) := by decide +kernel
theorem dX1_keep_10 : decode cX1_keep 10 = .ok (.putfield 17, 3) := by decide +kernel
theorem dX1_keep_13 : decode cX1_keep 13 = .ok (.aload_n 0, 1) := by decide +kernel
theorem dX1_keep_14 : decode cX1_keep 14 = .ok (.bipush 8, 2) := by decide +kernel
theorem dX1_keep_16 : decode cX1_keep 16 = .ok (.aload_n 0, 1) := by decide +kernel
theorem dX1_keep_17 : decode cX1_keep 17 = .ok (.getfield 21, 3) := by decide +kernel
theorem dX1_keep_20 : decode cX1_keep 20 = .ok (.iconst 1, 1) := by decide +kernel
theorem dX1_keep_21 : decode cX1_keep 21 = .ok (.iadd, 1) := by decide +kernel
theorem dX1_keep_22 : decode cX1_keep 22 = .ok (.invokestatic 31, 3) := by decide +kernel
theorem dX1_keep_25 : decode cX1_keep 25 = .ok (.putfield 21, 3) := by decide +kernel
theorem dX1_keep_28 : decode cX1_keep 28 = .ok (.return_, 1) := by decide +kernel
theorem dX1_prepare_0 : decode cX1_prepare 0 = .ok (.aload_n 0, 1) := by decide +kernel
theorem dX1_prepare_1 : decode cX1_prepare 1 = .ok (.getfield 13, 3) := by decide +kernel
theorem dX1_prepare_4 : decode cX1_prepare 4 = .ok (.aload_n 0, 1) := by decide +kernel
theorem dX1_prepare_5 : decode cX1_prepare 5 = .ok (.getfield 17, 3) := by decide +kernel
theorem dX1_prepare_8 : decode cX1_prepare 8 = .ok (.aaload, 1) := by decide +kernel
theorem dX1_prepare_9 : decode cX1_prepare 9 = .ok (.aload_n 1, 1) := by decide +kernel
theorem dX1_prepare_10 : decode cX1_prepare 10 = .ok (.invokevirtual 27, 3) := by decide +kernel
theorem dX1_prepare_13 : decode cX1_prepare 13 = .ok (.return_, 1) := by decide +kernel
theorem dX2_take_0 : decode cX2_take 0 = .ok (.aload_n 0, 1) := by decide +kernel
theorem dX2_take_1 : decode cX2_take 1 = .ok (.getfield 22, 3) := by decide +kernel
theorem dX2_take_4 : decode cX2_take 4 = .ok (.aload_n 1, 1) := by decide +kernel
theorem dX2_take_5 : decode cX2_take 5 = .ok (.invokevirtual 26, 3) := by decide +kernel
theorem dX2_take_8 : decode cX2_take 8 = .ok (.aload_n 0, 1) := by decide +kernel
theorem dX2_take_9 : decode cX2_take 9 = .ok (.aload_n 2, 1) := by decide +kernel
theorem dX2_take_10 : decode cX2_take 10 = .ok (.putfield 7, 3) := by decide +kernel
theorem dX2_take_13 : decode cX2_take 13 = .ok (.aload_n 0, 1) := by decide +kernel
theorem dX2_take_14 : decode cX2_take 14 = .ok (.iconst 1, 1) := by decide +kernel
theorem dX2_take_15 : decode cX2_take 15 = .ok (.putfield 13, 3) := by decide +kernel
theorem dX2_take_18 : decode cX2_take 18 = .ok (.return_, 1) := by decide +kernel
theorem dX3_beginsLine_0 : decode cX3_beginsLine 0 = .ok (.iload_n 2, 1) := by decide +kernel
theorem dX3_beginsLine_1 : decode cX3_beginsLine 1 = .ok (.sipush 128, 3) := by decide +kernel
theorem dX3_beginsLine_4 : decode cX3_beginsLine 4 = .ok (.if_icmp .lt 10, 3) := by decide +kernel
theorem dX3_beginsLine_7 : decode cX3_beginsLine 7 = .ok (.iload_n 2, 1) := by decide +kernel
theorem dX3_beginsLine_8 : decode cX3_beginsLine 8 = .ok (.sipush 136, 3) := by decide +kernel
theorem dX3_beginsLine_11 : decode cX3_beginsLine 11 = .ok (.if_icmp .le 11, 3) := by decide +kernel
theorem dX3_beginsLine_14 : decode cX3_beginsLine 14 = .ok (.aload_n 1, 1) := by decide +kernel
theorem dX3_beginsLine_15 : decode cX3_beginsLine 15 = .ok (.iconst 1, 1) := by decide +kernel
theorem dX3_beginsLine_16 : decode cX3_beginsLine 16 = .ok (.invokevirtual 90, 3) := by decide +kernel
theorem dX3_beginsLine_19 : decode cX3_beginsLine 19 = .ok (.goto 73, 3) := by decide +kernel
theorem dX3_beginsLine_22 : decode cX3_beginsLine 22 = .ok (.iload_n 2, 1) := by decide +kernel
theorem dX3_beginsLine_23 : decode cX3_beginsLine 23 = .ok (.sipush 131, 3) := by decide +kernel
theorem dX3_beginsLine_26 : decode cX3_beginsLine 26 = .ok (.if_icmp .gt 33, 3) := by decide +kernel
theorem dX3_beginsLine_29 : decode cX3_beginsLine 29 = .ok (.aload_n 0, 1) := by decide +kernel
theorem dX3_beginsLine_30 : decode cX3_beginsLine 30 = .ok (.getfield 19, 3) := by decide +kernel
theorem dX3_beginsLine_33 : decode cX3_beginsLine 33 = .ok (.iload_n 2, 1) := by decide +kernel
theorem dX3_beginsLine_34 : decode cX3_beginsLine 34 = .ok (.sipush 128, 3) := by decide +kernel
theorem dX3_beginsLine_37 : decode cX3_beginsLine 37 = .ok (.isub, 1) := by decide +kernel
theorem dX3_beginsLine_38 : decode cX3_beginsLine 38 = .ok (.iaload, 1) := by decide +kernel
theorem dX3_beginsLine_39 : decode cX3_beginsLine 39 = .ok (.getstatic 9, 3) := by decide +kernel
theorem dX3_beginsLine_42 : decode cX3_beginsLine 42 = .ok (.iload_n 2, 1) := by decide +kernel
theorem dX3_beginsLine_43 : decode cX3_beginsLine 43 = .ok (.sipush 128, 3) := by decide +kernel
theorem dX3_beginsLine_46 : decode cX3_beginsLine 46 = .ok (.isub, 1) := by decide +kernel
theorem dX3_beginsLine_47 : decode cX3_beginsLine 47 = .ok (.iaload, 1) := by decide +kernel
theorem dX3_beginsLine_48 : decode cX3_beginsLine 48 = .ok (.if_icmp .lt 11, 3) := by decide +kernel
theorem dX3_beginsLine_51 : decode cX3_beginsLine 51 = .ok (.aload_n 1, 1) := by decide +kernel
theorem dX3_beginsLine_52 : decode cX3_beginsLine 52 = .ok (.iconst 4, 1) := by decide +kernel
theorem dX3_beginsLine_53 : decode cX3_beginsLine 53 = .ok (.invokevirtual 90, 3) := by decide +kernel
theorem dX3_beginsLine_56 : decode cX3_beginsLine 56 = .ok (.goto 36, 3) := by decide +kernel
theorem dX3_beginsLine_59 : decode cX3_beginsLine 59 = .ok (.iload_n 2, 1) := by decide +kernel
theorem dX3_beginsLine_60 : decode cX3_beginsLine 60 = .ok (.sipush 135, 3) := by decide +kernel
theorem dX3_beginsLine_63 : decode cX3_beginsLine 63 = .ok (.if_icmp .ne 10, 3) := by decide +kernel
theorem dX3_beginsLine_66 : decode cX3_beginsLine 66 = .ok (.aload_n 0, 1) := by decide +kernel
theorem dX3_beginsLine_67 : decode cX3_beginsLine 67 = .ok (.getfield 38, 3) := by decide +kernel
theorem dX3_beginsLine_70 : decode cX3_beginsLine 70 = .ok (.ifCond .ne 17, 3) := by decide +kernel
theorem dX3_beginsLine_73 : decode cX3_beginsLine 73 = .ok (.iload_n 2, 1) := by decide +kernel
theorem dX3_beginsLine_74 : decode cX3_beginsLine 74 = .ok (.sipush 136, 3) := by decide +kernel
theorem dX3_beginsLine_77 : decode cX3_beginsLine 77 = .ok (.if_icmp .ne 15, 3) := by decide +kernel
theorem dX3_beginsLine_80 : decode cX3_beginsLine 80 = .ok (.aload_n 0, 1) := by decide +kernel
theorem dX3_beginsLine_81 : decode cX3_beginsLine 81 = .ok (.getfield 42, 3) := by decide +kernel
theorem dX3_beginsLine_84 : decode cX3_beginsLine 84 = .ok (.ifCond .eq 8, 3) := by decide +kernel
theorem dX3_beginsLine_87 : decode cX3_beginsLine 87 = .ok (.aload_n 1, 1) := by decide +kernel
theorem dX3_beginsLine_88 : decode cX3_beginsLine 88 = .ok (.iconst 3, 1) := by decide +kernel
theorem dX3_beginsLine_89 : decode cX3_beginsLine 89 = .ok (.invokevirtual 90, 3) := by decide +kernel
theorem dX3_beginsLine_92 : decode cX3_beginsLine 92 = .ok (.aload_n 1, 1) := by decide +kernel
theorem dX3_beginsLine_93 : decode cX3_beginsLine 93 = .ok (.invokevirtual 93, 3) := by decide +kernel
theorem dX3_beginsLine_96 : decode cX3_beginsLine 96 = .ok (.aload_n 1, 1) := by decide +kernel
theorem dX3_beginsLine_97 : decode cX3_beginsLine 97 = .ok (.getfield 96, 3) := by decide +kernel
theorem dX3_beginsLine_100 : decode cX3_beginsLine 100 = .ok (.ifCond .ne 7, 3) := by decide +kernel
theorem dX3_beginsLine_103 : decode cX3_beginsLine 103 = .ok (.iconst 1, 1) := by decide +kernel
theorem dX3_beginsLine_104 : decode cX3_beginsLine 104 = .ok (.goto 4, 3) := by decide +kernel
theorem dX3_beginsLine_107 : decode cX3_beginsLine 107 = .ok (.iconst 0, 1) := by decide +kernel
theorem dX3_beginsLine_108 : decode cX3_beginsLine 108 = .ok (.ireturn, 1) := by decide +kernel
theorem dX3_isTold_0 : decode cX3_isTold 0 = .ok (.iconst 0, 1) := by decide +kernel
theorem dX3_isTold_1 : decode cX3_isTold 1 = .ok (.istore_n 3, 1) := by decide +kernel
theorem dX3_isTold_2 : decode cX3_isTold 2 = .ok (.iload_n 3, 1) := by decide +kernel
theorem dX3_isTold_3 : decode cX3_isTold 3 = .ok (.aload_n 0, 1) := by decide +kernel
theorem dX3_isTold_4 : decode cX3_isTold 4 = .ok (.getfield 19, 3) := by decide +kernel
theorem dX3_isTold_7 : decode cX3_isTold 7 = .ok (.arraylength, 1) := by decide +kernel
theorem dX3_isTold_8 : decode cX3_isTold 8 = .ok (.if_icmp .ge 21, 3) := by decide +kernel
theorem dX3_isTold_11 : decode cX3_isTold 11 = .ok (.aload_n 0, 1) := by decide +kernel
theorem dX3_isTold_12 : decode cX3_isTold 12 = .ok (.lload_n 1, 1) := by decide +kernel
theorem dX3_isTold_13 : decode cX3_isTold 13 = .ok (.iload_n 3, 1) := by decide +kernel
theorem dX3_isTold_14 : decode cX3_isTold 14 = .ok (.invokevirtual 126, 3) := by decide +kernel
theorem dX3_isTold_17 : decode cX3_isTold 17 = .ok (.iconst (-1), 1) := by decide +kernel
theorem dX3_isTold_18 : decode cX3_isTold 18 = .ok (.if_icmp .eq 5, 3) := by decide +kernel
theorem dX3_isTold_21 : decode cX3_isTold 21 = .ok (.iconst 1, 1) := by decide +kernel
theorem dX3_isTold_22 : decode cX3_isTold 22 = .ok (.ireturn, 1) := by decide +kernel
theorem dX3_isTold_23 : decode cX3_isTold 23 = .ok (.iinc 3 1, 3) := by decide +kernel
theorem dX3_isTold_26 : decode cX3_isTold 26 = .ok (.goto (-24), 3) := by decide +kernel
theorem dX3_isTold_29 : decode cX3_isTold 29 = .ok (.iconst 0, 1) := by decide +kernel
theorem dX3_isTold_30 : decode cX3_isTold 30 = .ok (.ireturn, 1) := by decide +kernel
theorem dX3_nameOf_0 : decode cX3_nameOf 0 = .ok (.aload_n 0, 1) := by decide +kernel
theorem dX3_nameOf_1 : decode cX3_nameOf 1 = .ok (.getfield 15, 3) := by decide +kernel
theorem dX3_nameOf_4 : decode cX3_nameOf 4 = .ok (.iload_n 1, 1) := by decide +kernel
theorem dX3_nameOf_5 : decode cX3_nameOf 5 = .ok (.bipush 8, 2) := by decide +kernel
theorem dX3_nameOf_7 : decode cX3_nameOf 7 = .ok (.imul, 1) := by decide +kernel
theorem dX3_nameOf_8 : decode cX3_nameOf 8 = .ok (.iload_n 2, 1) := by decide +kernel
theorem dX3_nameOf_9 : decode cX3_nameOf 9 = .ok (.iadd, 1) := by decide +kernel
theorem dX3_nameOf_10 : decode cX3_nameOf 10 = .ok (.laload, 1) := by decide +kernel
theorem dX3_nameOf_11 : decode cX3_nameOf 11 = .ok (.lreturn, 1) := by decide +kernel
theorem dX3_numberOf_0 : decode cX3_numberOf 0 = .ok (.iconst 0, 1) := by decide +kernel
theorem dX3_numberOf_1 : decode cX3_numberOf 1 = .ok (.istore 4, 2) := by decide +kernel
theorem dX3_numberOf_3 : decode cX3_numberOf 3 = .ok (.iload 4, 2) := by decide +kernel
theorem dX3_numberOf_5 : decode cX3_numberOf 5 = .ok (.aload_n 0, 1) := by decide +kernel
theorem dX3_numberOf_6 : decode cX3_numberOf 6 = .ok (.getfield 19, 3) := by decide +kernel
theorem dX3_numberOf_9 : decode cX3_numberOf 9 = .ok (.iload_n 3, 1) := by decide +kernel
theorem dX3_numberOf_10 : decode cX3_numberOf 10 = .ok (.iaload, 1) := by decide +kernel
theorem dX3_numberOf_11 : decode cX3_numberOf 11 = .ok (.if_icmp .ge 29, 3) := by decide +kernel
theorem dX3_numberOf_14 : decode cX3_numberOf 14 = .ok (.aload_n 0, 1) := by decide +kernel
theorem dX3_numberOf_15 : decode cX3_numberOf 15 = .ok (.getfield 15, 3) := by decide +kernel
theorem dX3_numberOf_18 : decode cX3_numberOf 18 = .ok (.iload_n 3, 1) := by decide +kernel
theorem dX3_numberOf_19 : decode cX3_numberOf 19 = .ok (.bipush 8, 2) := by decide +kernel
theorem dX3_numberOf_21 : decode cX3_numberOf 21 = .ok (.imul, 1) := by decide +kernel
theorem dX3_numberOf_22 : decode cX3_numberOf 22 = .ok (.iload 4, 2) := by decide +kernel
theorem dX3_numberOf_24 : decode cX3_numberOf 24 = .ok (.iadd, 1) := by decide +kernel
theorem dX3_numberOf_25 : decode cX3_numberOf 25 = .ok (.laload, 1) := by decide +kernel
theorem dX3_numberOf_26 : decode cX3_numberOf 26 = .ok (.lload_n 1, 1) := by decide +kernel
theorem dX3_numberOf_27 : decode cX3_numberOf 27 = .ok (.lcmp, 1) := by decide +kernel
theorem dX3_numberOf_28 : decode cX3_numberOf 28 = .ok (.ifCond .ne 6, 3) := by decide +kernel
theorem dX3_numberOf_31 : decode cX3_numberOf 31 = .ok (.iload 4, 2) := by decide +kernel
theorem dX3_numberOf_33 : decode cX3_numberOf 33 = .ok (.ireturn, 1) := by decide +kernel
theorem dX3_numberOf_34 : decode cX3_numberOf 34 = .ok (.iinc 4 1, 3) := by decide +kernel
theorem dX3_numberOf_37 : decode cX3_numberOf 37 = .ok (.goto (-34), 3) := by decide +kernel
theorem dX3_numberOf_40 : decode cX3_numberOf 40 = .ok (.iconst (-1), 1) := by decide +kernel
theorem dX3_numberOf_41 : decode cX3_numberOf 41 = .ok (.ireturn, 1) := by decide +kernel
theorem dX3_quarrel_0 : decode cX3_quarrel 0 = .ok (.aload_n 0, 1) := by decide +kernel
theorem dX3_quarrel_1 : decode cX3_quarrel 1 = .ok (.getfield 25, 3) := by decide +kernel
theorem dX3_quarrel_4 : decode cX3_quarrel 4 = .ok (.iload_n 1, 1) := by decide +kernel
theorem dX3_quarrel_5 : decode cX3_quarrel 5 = .ok (.iaload, 1) := by decide +kernel
theorem dX3_quarrel_6 : decode cX3_quarrel 6 = .ok (.iload_n 2, 1) := by decide +kernel
theorem dX3_quarrel_7 : decode cX3_quarrel 7 = .ok (.ishr, 1) := by decide +kernel
theorem dX3_quarrel_8 : decode cX3_quarrel 8 = .ok (.iconst 1, 1) := by decide +kernel
theorem dX3_quarrel_9 : decode cX3_quarrel 9 = .ok (.iand, 1) := by decide +kernel
theorem dX3_quarrel_10 : decode cX3_quarrel 10 = .ok (.ifCond .eq 7, 3) := by decide +kernel
theorem dX3_quarrel_13 : decode cX3_quarrel 13 = .ok (.iconst 1, 1) := by decide +kernel
theorem dX3_quarrel_14 : decode cX3_quarrel 14 = .ok (.goto 4, 3) := by decide +kernel
theorem dX3_quarrel_17 : decode cX3_quarrel 17 = .ok (.iconst 0, 1) := by decide +kernel
theorem dX3_quarrel_18 : decode cX3_quarrel 18 = .ok (.ireturn, 1) := by decide +kernel
theorem dX3_readHas_0 : decode cX3_readHas 0 = .ok (.aload_n 1, 1) := by decide +kernel
theorem dX3_readHas_1 : decode cX3_readHas 1 = .ok (.aload_n 0, 1) := by decide +kernel
theorem dX3_readHas_2 : decode cX3_readHas 2 = .ok (.iconst 2, 1) := by decide +kernel
theorem dX3_readHas_3 : decode cX3_readHas 3 = .ok (.invokevirtual 106, 3) := by decide +kernel
theorem dX3_readHas_6 : decode cX3_readHas 6 = .ok (.istore_n 3, 1) := by decide +kernel
theorem dX3_readHas_7 : decode cX3_readHas 7 = .ok (.aload_n 1, 1) := by decide +kernel
theorem dX3_readHas_8 : decode cX3_readHas 8 = .ok (.aload_n 0, 1) := by decide +kernel
theorem dX3_readHas_9 : decode cX3_readHas 9 = .ok (.iconst 0, 1) := by decide +kernel
theorem dX3_readHas_10 : decode cX3_readHas 10 = .ok (.invokevirtual 130, 3) := by decide +kernel
theorem dX3_readHas_13 : decode cX3_readHas 13 = .ok (.istore 4, 2) := by decide +kernel
theorem dX3_readHas_15 : decode cX3_readHas 15 = .ok (.iload_n 3, 1) := by decide +kernel
theorem dX3_readHas_16 : decode cX3_readHas 16 = .ok (.iconst (-1), 1) := by decide +kernel
theorem dX3_readHas_17 : decode cX3_readHas 17 = .ok (.if_icmp .eq 13, 3) := by decide +kernel
theorem dX3_readHas_20 : decode cX3_readHas 20 = .ok (.iload 4, 2) := by decide +kernel
theorem dX3_readHas_22 : decode cX3_readHas 22 = .ok (.iconst (-1), 1) := by decide +kernel
theorem dX3_readHas_23 : decode cX3_readHas 23 = .ok (.if_icmp .eq 7, 3) := by decide +kernel
theorem dX3_readHas_26 : decode cX3_readHas 26 = .ok (.iconst 1, 1) := by decide +kernel
theorem dX3_readHas_27 : decode cX3_readHas 27 = .ok (.goto 4, 3) := by decide +kernel
theorem dX3_readHas_30 : decode cX3_readHas 30 = .ok (.iconst 0, 1) := by decide +kernel
theorem dX3_readHas_31 : decode cX3_readHas 31 = .ok (.istore 5, 2) := by decide +kernel
theorem dX3_readHas_33 : decode cX3_readHas 33 = .ok (.iload 5, 2) := by decide +kernel
theorem dX3_readHas_35 : decode cX3_readHas 35 = .ok (.ifCond .eq 18, 3) := by decide +kernel
theorem dX3_readHas_38 : decode cX3_readHas 38 = .ok (.aload_n 2, 1) := by decide +kernel
theorem dX3_readHas_39 : decode cX3_readHas 39 = .ok (.iload_n 3, 1) := by decide +kernel
theorem dX3_readHas_40 : decode cX3_readHas 40 = .ok (.iload 4, 2) := by decide +kernel
theorem dX3_readHas_42 : decode cX3_readHas 42 = .ok (.invokevirtual 136, 3) := by decide +kernel
theorem dX3_readHas_45 : decode cX3_readHas 45 = .ok (.ifCond .le 8, 3) := by decide +kernel
theorem dX3_readHas_48 : decode cX3_readHas 48 = .ok (.aload_n 1, 1) := by decide +kernel
theorem dX3_readHas_49 : decode cX3_readHas 49 = .ok (.iconst 3, 1) := by decide +kernel
theorem dX3_readHas_50 : decode cX3_readHas 50 = .ok (.invokevirtual 90, 3) := by decide +kernel
theorem dX3_readHas_53 : decode cX3_readHas 53 = .ok (.aload_n 1, 1) := by decide +kernel
theorem dX3_readHas_54 : decode cX3_readHas 54 = .ok (.invokevirtual 93, 3) := by decide +kernel
theorem dX3_readHas_57 : decode cX3_readHas 57 = .ok (.aload_n 1, 1) := by decide +kernel
theorem dX3_readHas_58 : decode cX3_readHas 58 = .ok (.iconst 1, 1) := by decide +kernel
theorem dX3_readHas_59 : decode cX3_readHas 59 = .ok (.bipush 99, 2) := by decide +kernel
theorem dX3_readHas_61 : decode cX3_readHas 61 = .ok (.invokevirtual 79, 3) := by decide +kernel
theorem dX3_readHas_64 : decode cX3_readHas 64 = .ok (.istore 6, 2) := by decide +kernel
theorem dX3_readHas_66 : decode cX3_readHas 66 = .ok (.iload 5, 2) := by decide +kernel
theorem dX3_readHas_68 : decode cX3_readHas 68 = .ok (.ifCond .eq 12, 3) := by decide +kernel
theorem dX3_readHas_71 : decode cX3_readHas 71 = .ok (.aload_n 2, 1) := by decide +kernel
theorem dX3_readHas_72 : decode cX3_readHas 72 = .ok (.iload_n 3, 1) := by decide +kernel
theorem dX3_readHas_73 : decode cX3_readHas 73 = .ok (.iload 4, 2) := by decide +kernel
theorem dX3_readHas_75 : decode cX3_readHas 75 = .ok (.iload 6, 2) := by decide +kernel
theorem dX3_readHas_77 : decode cX3_readHas 77 = .ok (.invokevirtual 139, 3) := by decide +kernel
theorem dX3_readHas_80 : decode cX3_readHas 80 = .ok (.return_, 1) := by decide +kernel
theorem dX3_readQuarrel_0 : decode cX3_readQuarrel 0 = .ok (.aload_n 1, 1) := by decide +kernel
theorem dX3_readQuarrel_1 : decode cX3_readQuarrel 1 = .ok (.aload_n 0, 1) := by decide +kernel
theorem dX3_readQuarrel_2 : decode cX3_readQuarrel 2 = .ok (.iconst 0, 1) := by decide +kernel
theorem dX3_readQuarrel_3 : decode cX3_readQuarrel 3 = .ok (.invokevirtual 106, 3) := by decide +kernel
theorem dX3_readQuarrel_6 : decode cX3_readQuarrel 6 = .ok (.istore_n 2, 1) := by decide +kernel
theorem dX3_readQuarrel_7 : decode cX3_readQuarrel 7 = .ok (.aload_n 1, 1) := by decide +kernel
theorem dX3_readQuarrel_8 : decode cX3_readQuarrel 8 = .ok (.aload_n 0, 1) := by decide +kernel
theorem dX3_readQuarrel_9 : decode cX3_readQuarrel 9 = .ok (.iconst 0, 1) := by decide +kernel
theorem dX3_readQuarrel_10 : decode cX3_readQuarrel 10 = .ok (.invokevirtual 130, 3) := by decide +kernel
theorem dX3_readQuarrel_13 : decode cX3_readQuarrel 13 = .ok (.istore_n 3, 1) := by decide +kernel
theorem dX3_readQuarrel_14 : decode cX3_readQuarrel 14 = .ok (.iload_n 2, 1) := by decide +kernel
theorem dX3_readQuarrel_15 : decode cX3_readQuarrel 15 = .ok (.iconst (-1), 1) := by decide +kernel
theorem dX3_readQuarrel_16 : decode cX3_readQuarrel 16 = .ok (.if_icmp .eq 12, 3) := by decide +kernel
theorem dX3_readQuarrel_19 : decode cX3_readQuarrel 19 = .ok (.iload_n 3, 1) := by decide +kernel
theorem dX3_readQuarrel_20 : decode cX3_readQuarrel 20 = .ok (.iconst (-1), 1) := by decide +kernel
theorem dX3_readQuarrel_21 : decode cX3_readQuarrel 21 = .ok (.if_icmp .eq 7, 3) := by decide +kernel
theorem dX3_readQuarrel_24 : decode cX3_readQuarrel 24 = .ok (.iconst 1, 1) := by decide +kernel
theorem dX3_readQuarrel_25 : decode cX3_readQuarrel 25 = .ok (.goto 4, 3) := by decide +kernel
theorem dX3_readQuarrel_28 : decode cX3_readQuarrel 28 = .ok (.iconst 0, 1) := by decide +kernel
theorem dX3_readQuarrel_29 : decode cX3_readQuarrel 29 = .ok (.istore 4, 2) := by decide +kernel
theorem dX3_readQuarrel_31 : decode cX3_readQuarrel 31 = .ok (.iload 4, 2) := by decide +kernel
theorem dX3_readQuarrel_33 : decode cX3_readQuarrel 33 = .ok (.ifCond .eq 22, 3) := by decide +kernel
theorem dX3_readQuarrel_36 : decode cX3_readQuarrel 36 = .ok (.iload_n 2, 1) := by decide +kernel
theorem dX3_readQuarrel_37 : decode cX3_readQuarrel 37 = .ok (.iload_n 3, 1) := by decide +kernel
theorem dX3_readQuarrel_38 : decode cX3_readQuarrel 38 = .ok (.if_icmp .eq 12, 3) := by decide +kernel
theorem dX3_readQuarrel_41 : decode cX3_readQuarrel 41 = .ok (.aload_n 0, 1) := by decide +kernel
theorem dX3_readQuarrel_42 : decode cX3_readQuarrel 42 = .ok (.iload_n 2, 1) := by decide +kernel
theorem dX3_readQuarrel_43 : decode cX3_readQuarrel 43 = .ok (.iload_n 3, 1) := by decide +kernel
theorem dX3_readQuarrel_44 : decode cX3_readQuarrel 44 = .ok (.invokevirtual 143, 3) := by decide +kernel
theorem dX3_readQuarrel_47 : decode cX3_readQuarrel 47 = .ok (.ifCond .eq 8, 3) := by decide +kernel
theorem dX3_readQuarrel_50 : decode cX3_readQuarrel 50 = .ok (.aload_n 1, 1) := by decide +kernel
theorem dX3_readQuarrel_51 : decode cX3_readQuarrel 51 = .ok (.iconst 3, 1) := by decide +kernel
theorem dX3_readQuarrel_52 : decode cX3_readQuarrel 52 = .ok (.invokevirtual 90, 3) := by decide +kernel
theorem dX3_readQuarrel_55 : decode cX3_readQuarrel 55 = .ok (.aload_n 1, 1) := by decide +kernel
theorem dX3_readQuarrel_56 : decode cX3_readQuarrel 56 = .ok (.invokevirtual 93, 3) := by decide +kernel
theorem dX3_readQuarrel_59 : decode cX3_readQuarrel 59 = .ok (.iload 4, 2) := by decide +kernel
theorem dX3_readQuarrel_61 : decode cX3_readQuarrel 61 = .ok (.ifCond .eq 27, 3) := by decide +kernel
theorem dX3_readQuarrel_64 : decode cX3_readQuarrel 64 = .ok (.aload_n 0, 1) := by decide +kernel
theorem dX3_readQuarrel_65 : decode cX3_readQuarrel 65 = .ok (.getfield 25, 3) := by decide +kernel
theorem dX3_readQuarrel_68 : decode cX3_readQuarrel 68 = .ok (.iload_n 2, 1) := by decide +kernel
theorem dX3_readQuarrel_69 : decode cX3_readQuarrel 69 = .ok (.dup2, 1) := by decide +kernel
theorem dX3_readQuarrel_70 : decode cX3_readQuarrel 70 = .ok (.iaload, 1) := by decide +kernel
theorem dX3_readQuarrel_71 : decode cX3_readQuarrel 71 = .ok (.iconst 1, 1) := by decide +kernel
theorem dX3_readQuarrel_72 : decode cX3_readQuarrel 72 = .ok (.iload_n 3, 1) := by decide +kernel
theorem dX3_readQuarrel_73 : decode cX3_readQuarrel 73 = .ok (.ishl, 1) := by decide +kernel
theorem dX3_readQuarrel_74 : decode cX3_readQuarrel 74 = .ok (.ior, 1) := by decide +kernel
theorem dX3_readQuarrel_75 : decode cX3_readQuarrel 75 = .ok (.iastore, 1) := by decide +kernel
theorem dX3_readQuarrel_76 : decode cX3_readQuarrel 76 = .ok (.aload_n 0, 1) := by decide +kernel
theorem dX3_readQuarrel_77 : decode cX3_readQuarrel 77 = .ok (.getfield 25, 3) := by decide +kernel
theorem dX3_readQuarrel_80 : decode cX3_readQuarrel 80 = .ok (.iload_n 3, 1) := by decide +kernel
theorem dX3_readQuarrel_81 : decode cX3_readQuarrel 81 = .ok (.dup2, 1) := by decide +kernel
theorem dX3_readQuarrel_82 : decode cX3_readQuarrel 82 = .ok (.iaload, 1) := by decide +kernel
theorem dX3_readQuarrel_83 : decode cX3_readQuarrel 83 = .ok (.iconst 1, 1) := by decide +kernel
theorem dX3_readQuarrel_84 : decode cX3_readQuarrel 84 = .ok (.iload_n 2, 1) := by decide +kernel
theorem dX3_readQuarrel_85 : decode cX3_readQuarrel 85 = .ok (.ishl, 1) := by decide +kernel
theorem dX3_readQuarrel_86 : decode cX3_readQuarrel 86 = .ok (.ior, 1) := by decide +kernel
theorem dX3_readQuarrel_87 : decode cX3_readQuarrel 87 = .ok (.iastore, 1) := by decide +kernel
theorem dX3_readQuarrel_88 : decode cX3_readQuarrel 88 = .ok (.return_, 1) := by decide +kernel
theorem dX3_readSits_0 : decode cX3_readSits 0 = .ok (.aload_n 1, 1) := by decide +kernel
theorem dX3_readSits_1 : decode cX3_readSits 1 = .ok (.aload_n 0, 1) := by decide +kernel
theorem dX3_readSits_2 : decode cX3_readSits 2 = .ok (.iconst 3, 1) := by decide +kernel
theorem dX3_readSits_3 : decode cX3_readSits 3 = .ok (.invokevirtual 130, 3) := by decide +kernel
theorem dX3_readSits_6 : decode cX3_readSits 6 = .ok (.istore_n 3, 1) := by decide +kernel
theorem dX3_readSits_7 : decode cX3_readSits 7 = .ok (.iload_n 3, 1) := by decide +kernel
theorem dX3_readSits_8 : decode cX3_readSits 8 = .ok (.iconst (-1), 1) := by decide +kernel
theorem dX3_readSits_9 : decode cX3_readSits 9 = .ok (.if_icmp .eq 18, 3) := by decide +kernel
theorem dX3_readSits_12 : decode cX3_readSits 12 = .ok (.aload_n 2, 1) := by decide +kernel
theorem dX3_readSits_13 : decode cX3_readSits 13 = .ok (.getfield 133, 3) := by decide +kernel
theorem dX3_readSits_16 : decode cX3_readSits 16 = .ok (.iload_n 3, 1) := by decide +kernel
theorem dX3_readSits_17 : decode cX3_readSits 17 = .ok (.iaload, 1) := by decide +kernel
theorem dX3_readSits_18 : decode cX3_readSits 18 = .ok (.iconst (-1), 1) := by decide +kernel
theorem dX3_readSits_19 : decode cX3_readSits 19 = .ok (.if_icmp .eq 8, 3) := by decide +kernel
theorem dX3_readSits_22 : decode cX3_readSits 22 = .ok (.aload_n 1, 1) := by decide +kernel
theorem dX3_readSits_23 : decode cX3_readSits 23 = .ok (.iconst 3, 1) := by decide +kernel
theorem dX3_readSits_24 : decode cX3_readSits 24 = .ok (.invokevirtual 90, 3) := by decide +kernel
theorem dX3_readSits_27 : decode cX3_readSits 27 = .ok (.aload_n 1, 1) := by decide +kernel
theorem dX3_readSits_28 : decode cX3_readSits 28 = .ok (.invokevirtual 93, 3) := by decide +kernel
theorem dX3_readSits_31 : decode cX3_readSits 31 = .ok (.aload_n 1, 1) := by decide +kernel
theorem dX3_readSits_32 : decode cX3_readSits 32 = .ok (.aload_n 0, 1) := by decide +kernel
theorem dX3_readSits_33 : decode cX3_readSits 33 = .ok (.iconst 2, 1) := by decide +kernel
theorem dX3_readSits_34 : decode cX3_readSits 34 = .ok (.invokevirtual 106, 3) := by decide +kernel
theorem dX3_readSits_37 : decode cX3_readSits 37 = .ok (.istore 4, 2) := by decide +kernel
theorem dX3_readSits_39 : decode cX3_readSits 39 = .ok (.iload_n 3, 1) := by decide +kernel
theorem dX3_readSits_40 : decode cX3_readSits 40 = .ok (.iconst (-1), 1) := by decide +kernel
theorem dX3_readSits_41 : decode cX3_readSits 41 = .ok (.if_icmp .eq 11, 3) := by decide +kernel
theorem dX3_readSits_44 : decode cX3_readSits 44 = .ok (.aload_n 2, 1) := by decide +kernel
theorem dX3_readSits_45 : decode cX3_readSits 45 = .ok (.getfield 133, 3) := by decide +kernel
theorem dX3_readSits_48 : decode cX3_readSits 48 = .ok (.iload_n 3, 1) := by decide +kernel
theorem dX3_readSits_49 : decode cX3_readSits 49 = .ok (.iload 4, 2) := by decide +kernel
theorem dX3_readSits_51 : decode cX3_readSits 51 = .ok (.iastore, 1) := by decide +kernel
theorem dX3_readSits_52 : decode cX3_readSits 52 = .ok (.return_, 1) := by decide +kernel
theorem dX4_canPlace_0 : decode cX4_canPlace 0 = .ok (.iload_n 2, 1) := by decide +kernel
theorem dX4_canPlace_1 : decode cX4_canPlace 1 = .ok (.aload_n 1, 1) := by decide +kernel
theorem dX4_canPlace_2 : decode cX4_canPlace 2 = .ok (.getfield 30, 3) := by decide +kernel
theorem dX4_canPlace_5 : decode cX4_canPlace 5 = .ok (.iconst 2, 1) := by decide +kernel
theorem dX4_canPlace_6 : decode cX4_canPlace 6 = .ok (.iaload, 1) := by decide +kernel
theorem dX4_canPlace_7 : decode cX4_canPlace 7 = .ok (.if_icmp .ge 12, 3) := by decide +kernel
theorem dX4_canPlace_10 : decode cX4_canPlace 10 = .ok (.iload_n 2, 1) := by decide +kernel
theorem dX4_canPlace_11 : decode cX4_canPlace 11 = .ok (.aload_n 0, 1) := by decide +kernel
theorem dX4_canPlace_12 : decode cX4_canPlace 12 = .ok (.getfield 15, 3) := by decide +kernel
theorem dX4_canPlace_15 : decode cX4_canPlace 15 = .ok (.arraylength, 1) := by decide +kernel
theorem dX4_canPlace_16 : decode cX4_canPlace 16 = .ok (.if_icmp .lt 5, 3) := by decide +kernel
theorem dX4_canPlace_19 : decode cX4_canPlace 19 = .ok (.iconst 1, 1) := by decide +kernel
theorem dX4_canPlace_20 : decode cX4_canPlace 20 = .ok (.ireturn, 1) := by decide +kernel
theorem dX4_canPlace_21 : decode cX4_canPlace 21 = .ok (.iconst 0, 1) := by decide +kernel
theorem dX4_canPlace_22 : decode cX4_canPlace 22 = .ok (.istore 4, 2) := by decide +kernel
theorem dX4_canPlace_24 : decode cX4_canPlace 24 = .ok (.iload 4, 2) := by decide +kernel
theorem dX4_canPlace_26 : decode cX4_canPlace 26 = .ok (.iload_n 3, 1) := by decide +kernel
theorem dX4_canPlace_27 : decode cX4_canPlace 27 = .ok (.if_icmp .ge 42, 3) := by decide +kernel
theorem dX4_canPlace_30 : decode cX4_canPlace 30 = .ok (.aload_n 0, 1) := by decide +kernel
theorem dX4_canPlace_31 : decode cX4_canPlace 31 = .ok (.aload_n 1, 1) := by decide +kernel
theorem dX4_canPlace_32 : decode cX4_canPlace 32 = .ok (.iload_n 2, 1) := by decide +kernel
theorem dX4_canPlace_33 : decode cX4_canPlace 33 = .ok (.iload 4, 2) := by decide +kernel
theorem dX4_canPlace_35 : decode cX4_canPlace 35 = .ok (.invokevirtual 43, 3) := by decide +kernel
theorem dX4_canPlace_38 : decode cX4_canPlace 38 = .ok (.ifCond .eq 25, 3) := by decide +kernel
theorem dX4_canPlace_41 : decode cX4_canPlace 41 = .ok (.aload_n 0, 1) := by decide +kernel
theorem dX4_canPlace_42 : decode cX4_canPlace 42 = .ok (.getfield 15, 3) := by decide +kernel
theorem dX4_canPlace_45 : decode cX4_canPlace 45 = .ok (.iload_n 2, 1) := by decide +kernel
theorem dX4_canPlace_46 : decode cX4_canPlace 46 = .ok (.iload 4, 2) := by decide +kernel
theorem dX4_canPlace_48 : decode cX4_canPlace 48 = .ok (.iastore, 1) := by decide +kernel
theorem dX4_canPlace_49 : decode cX4_canPlace 49 = .ok (.aload_n 0, 1) := by decide +kernel
theorem dX4_canPlace_50 : decode cX4_canPlace 50 = .ok (.aload_n 1, 1) := by decide +kernel
theorem dX4_canPlace_51 : decode cX4_canPlace 51 = .ok (.iload_n 2, 1) := by decide +kernel
theorem dX4_canPlace_52 : decode cX4_canPlace 52 = .ok (.iconst 1, 1) := by decide +kernel
theorem dX4_canPlace_53 : decode cX4_canPlace 53 = .ok (.iadd, 1) := by decide +kernel
theorem dX4_canPlace_54 : decode cX4_canPlace 54 = .ok (.iload_n 3, 1) := by decide +kernel
theorem dX4_canPlace_55 : decode cX4_canPlace 55 = .ok (.invokevirtual 39, 3) := by decide +kernel
theorem dX4_canPlace_58 : decode cX4_canPlace 58 = .ok (.ifCond .eq 5, 3) := by decide +kernel
theorem dX4_canPlace_61 : decode cX4_canPlace 61 = .ok (.iconst 1, 1) := by decide +kernel
theorem dX4_canPlace_62 : decode cX4_canPlace 62 = .ok (.ireturn, 1) := by decide +kernel
theorem dX4_canPlace_63 : decode cX4_canPlace 63 = .ok (.iinc 4 1, 3) := by decide +kernel
theorem dX4_canPlace_66 : decode cX4_canPlace 66 = .ok (.goto (-42), 3) := by decide +kernel
theorem dX4_canPlace_69 : decode cX4_canPlace 69 = .ok (.iconst 0, 1) := by decide +kernel
theorem dX4_canPlace_70 : decode cX4_canPlace 70 = .ok (.ireturn, 1) := by decide +kernel
theorem dX4_fewestFor_0 : decode cX4_fewestFor 0 = .ok (.aload_n 1, 1) := by decide +kernel
theorem dX4_fewestFor_1 : decode cX4_fewestFor 1 = .ok (.getfield 24, 3) := by decide +kernel
theorem dX4_fewestFor_4 : decode cX4_fewestFor 4 = .ok (.getfield 30, 3) := by decide +kernel
theorem dX4_fewestFor_7 : decode cX4_fewestFor 7 = .ok (.iconst 2, 1) := by decide +kernel
theorem dX4_fewestFor_8 : decode cX4_fewestFor 8 = .ok (.iaload, 1) := by decide +kernel
theorem dX4_fewestFor_9 : decode cX4_fewestFor 9 = .ok (.istore_n 2, 1) := by decide +kernel
theorem dX4_fewestFor_10 : decode cX4_fewestFor 10 = .ok (.aload_n 0, 1) := by decide +kernel
theorem dX4_fewestFor_11 : decode cX4_fewestFor 11 = .ok (.getfield 15, 3) := by decide +kernel
theorem dX4_fewestFor_14 : decode cX4_fewestFor 14 = .ok (.iconst (-1), 1) := by decide +kernel
theorem dX4_fewestFor_15 : decode cX4_fewestFor 15 = .ok (.invokestatic 18, 3) := by decide +kernel
theorem dX4_fewestFor_18 : decode cX4_fewestFor 18 = .ok (.iconst 0, 1) := by decide +kernel
theorem dX4_fewestFor_19 : decode cX4_fewestFor 19 = .ok (.istore_n 3, 1) := by decide +kernel
theorem dX4_fewestFor_20 : decode cX4_fewestFor 20 = .ok (.iload_n 3, 1) := by decide +kernel
theorem dX4_fewestFor_21 : decode cX4_fewestFor 21 = .ok (.iload_n 2, 1) := by decide +kernel
theorem dX4_fewestFor_22 : decode cX4_fewestFor 22 = .ok (.if_icmp .ge 20, 3) := by decide +kernel
theorem dX4_fewestFor_25 : decode cX4_fewestFor 25 = .ok (.aload_n 0, 1) := by decide +kernel
theorem dX4_fewestFor_26 : decode cX4_fewestFor 26 = .ok (.getfield 9, 3) := by decide +kernel
theorem dX4_fewestFor_29 : decode cX4_fewestFor 29 = .ok (.iload_n 3, 1) := by decide +kernel
theorem dX4_fewestFor_30 : decode cX4_fewestFor 30 = .ok (.aload_n 1, 1) := by decide +kernel
theorem dX4_fewestFor_31 : decode cX4_fewestFor 31 = .ok (.iload_n 3, 1) := by decide +kernel
theorem dX4_fewestFor_32 : decode cX4_fewestFor 32 = .ok (.invokevirtual 35, 3) := by decide +kernel
theorem dX4_fewestFor_35 : decode cX4_fewestFor 35 = .ok (.iastore, 1) := by decide +kernel
theorem dX4_fewestFor_36 : decode cX4_fewestFor 36 = .ok (.iinc 3 1, 3) := by decide +kernel
theorem dX4_fewestFor_39 : decode cX4_fewestFor 39 = .ok (.goto (-19), 3) := by decide +kernel
theorem dX4_fewestFor_42 : decode cX4_fewestFor 42 = .ok (.iconst 0, 1) := by decide +kernel
theorem dX4_fewestFor_43 : decode cX4_fewestFor 43 = .ok (.istore_n 3, 1) := by decide +kernel
theorem dX4_fewestFor_44 : decode cX4_fewestFor 44 = .ok (.aload_n 0, 1) := by decide +kernel
theorem dX4_fewestFor_45 : decode cX4_fewestFor 45 = .ok (.aload_n 1, 1) := by decide +kernel
theorem dX4_fewestFor_46 : decode cX4_fewestFor 46 = .ok (.getfield 24, 3) := by decide +kernel
theorem dX4_fewestFor_49 : decode cX4_fewestFor 49 = .ok (.iconst 0, 1) := by decide +kernel
theorem dX4_fewestFor_50 : decode cX4_fewestFor 50 = .ok (.iload_n 3, 1) := by decide +kernel
theorem dX4_fewestFor_51 : decode cX4_fewestFor 51 = .ok (.invokevirtual 39, 3) := by decide +kernel
theorem dX4_fewestFor_54 : decode cX4_fewestFor 54 = .ok (.ifCond .ne 14, 3) := by decide +kernel
theorem dX4_fewestFor_57 : decode cX4_fewestFor 57 = .ok (.iload_n 3, 1) := by decide +kernel
theorem dX4_fewestFor_58 : decode cX4_fewestFor 58 = .ok (.iload_n 2, 1) := by decide +kernel
theorem dX4_fewestFor_59 : decode cX4_fewestFor 59 = .ok (.if_icmp .ge 9, 3) := by decide +kernel
theorem dX4_fewestFor_62 : decode cX4_fewestFor 62 = .ok (.iinc 3 1, 3) := by decide +kernel
theorem dX4_fewestFor_65 : decode cX4_fewestFor 65 = .ok (.goto (-21), 3) := by decide +kernel
theorem dX4_fewestFor_68 : decode cX4_fewestFor 68 = .ok (.iload_n 3, 1) := by decide +kernel
theorem dX4_fewestFor_69 : decode cX4_fewestFor 69 = .ok (.ireturn, 1) := by decide +kernel
theorem dX4_isQuiet_0 : decode cX4_isQuiet 0 = .ok (.iconst 0, 1) := by decide +kernel
theorem dX4_isQuiet_1 : decode cX4_isQuiet 1 = .ok (.istore 4, 2) := by decide +kernel
theorem dX4_isQuiet_3 : decode cX4_isQuiet 3 = .ok (.iload 4, 2) := by decide +kernel
theorem dX4_isQuiet_5 : decode cX4_isQuiet 5 = .ok (.iload_n 2, 1) := by decide +kernel
theorem dX4_isQuiet_6 : decode cX4_isQuiet 6 = .ok (.if_icmp .ge 75, 3) := by decide +kernel
theorem dX4_isQuiet_9 : decode cX4_isQuiet 9 = .ok (.aload_n 0, 1) := by decide +kernel
theorem dX4_isQuiet_10 : decode cX4_isQuiet 10 = .ok (.getfield 9, 3) := by decide +kernel
theorem dX4_isQuiet_13 : decode cX4_isQuiet 13 = .ok (.iload 4, 2) := by decide +kernel
theorem dX4_isQuiet_15 : decode cX4_isQuiet 15 = .ok (.iaload, 1) := by decide +kernel
theorem dX4_isQuiet_16 : decode cX4_isQuiet 16 = .ok (.iconst (-1), 1) := by decide +kernel
theorem dX4_isQuiet_17 : decode cX4_isQuiet 17 = .ok (.if_icmp .eq 17, 3) := by decide +kernel
theorem dX4_isQuiet_20 : decode cX4_isQuiet 20 = .ok (.aload_n 0, 1) := by decide +kernel
theorem dX4_isQuiet_21 : decode cX4_isQuiet 21 = .ok (.getfield 9, 3) := by decide +kernel
theorem dX4_isQuiet_24 : decode cX4_isQuiet 24 = .ok (.iload_n 2, 1) := by decide +kernel
theorem dX4_isQuiet_25 : decode cX4_isQuiet 25 = .ok (.iaload, 1) := by decide +kernel
theorem dX4_isQuiet_26 : decode cX4_isQuiet 26 = .ok (.iconst (-1), 1) := by decide +kernel
theorem dX4_isQuiet_27 : decode cX4_isQuiet 27 = .ok (.if_icmp .eq 7, 3) := by decide +kernel
theorem dX4_isQuiet_30 : decode cX4_isQuiet 30 = .ok (.iconst 1, 1) := by decide +kernel
theorem dX4_isQuiet_31 : decode cX4_isQuiet 31 = .ok (.goto 4, 3) := by decide +kernel
theorem dX4_isQuiet_34 : decode cX4_isQuiet 34 = .ok (.iconst 0, 1) := by decide +kernel
theorem dX4_isQuiet_35 : decode cX4_isQuiet 35 = .ok (.istore 5, 2) := by decide +kernel
theorem dX4_isQuiet_37 : decode cX4_isQuiet 37 = .ok (.aload_n 0, 1) := by decide +kernel
theorem dX4_isQuiet_38 : decode cX4_isQuiet 38 = .ok (.getfield 15, 3) := by decide +kernel
theorem dX4_isQuiet_41 : decode cX4_isQuiet 41 = .ok (.iload 4, 2) := by decide +kernel
theorem dX4_isQuiet_43 : decode cX4_isQuiet 43 = .ok (.iaload, 1) := by decide +kernel
theorem dX4_isQuiet_44 : decode cX4_isQuiet 44 = .ok (.iload_n 3, 1) := by decide +kernel
theorem dX4_isQuiet_45 : decode cX4_isQuiet 45 = .ok (.if_icmp .ne 30, 3) := by decide +kernel
theorem dX4_isQuiet_48 : decode cX4_isQuiet 48 = .ok (.iload 5, 2) := by decide +kernel
theorem dX4_isQuiet_50 : decode cX4_isQuiet 50 = .ok (.ifCond .eq 25, 3) := by decide +kernel
theorem dX4_isQuiet_53 : decode cX4_isQuiet 53 = .ok (.aload_n 1, 1) := by decide +kernel
theorem dX4_isQuiet_54 : decode cX4_isQuiet 54 = .ok (.aload_n 0, 1) := by decide +kernel
theorem dX4_isQuiet_55 : decode cX4_isQuiet 55 = .ok (.getfield 9, 3) := by decide +kernel
theorem dX4_isQuiet_58 : decode cX4_isQuiet 58 = .ok (.iload 4, 2) := by decide +kernel
theorem dX4_isQuiet_60 : decode cX4_isQuiet 60 = .ok (.iaload, 1) := by decide +kernel
theorem dX4_isQuiet_61 : decode cX4_isQuiet 61 = .ok (.aload_n 0, 1) := by decide +kernel
theorem dX4_isQuiet_62 : decode cX4_isQuiet 62 = .ok (.getfield 9, 3) := by decide +kernel
theorem dX4_isQuiet_65 : decode cX4_isQuiet 65 = .ok (.iload_n 2, 1) := by decide +kernel
theorem dX4_isQuiet_66 : decode cX4_isQuiet 66 = .ok (.iaload, 1) := by decide +kernel
theorem dX4_isQuiet_67 : decode cX4_isQuiet 67 = .ok (.invokevirtual 46, 3) := by decide +kernel
theorem dX4_isQuiet_70 : decode cX4_isQuiet 70 = .ok (.ifCond .eq 5, 3) := by decide +kernel
theorem dX4_isQuiet_73 : decode cX4_isQuiet 73 = .ok (.iconst 0, 1) := by decide +kernel
theorem dX4_isQuiet_74 : decode cX4_isQuiet 74 = .ok (.ireturn, 1) := by decide +kernel
theorem dX4_isQuiet_75 : decode cX4_isQuiet 75 = .ok (.iinc 4 1, 3) := by decide +kernel
theorem dX4_isQuiet_78 : decode cX4_isQuiet 78 = .ok (.goto (-75), 3) := by decide +kernel
theorem dX4_isQuiet_81 : decode cX4_isQuiet 81 = .ok (.iconst 1, 1) := by decide +kernel
theorem dX4_isQuiet_82 : decode cX4_isQuiet 82 = .ok (.ireturn, 1) := by decide +kernel
theorem dX5_addStep_0 : decode cX5_addStep 0 = .ok (.aload_n 0, 1) := by decide +kernel
theorem dX5_addStep_1 : decode cX5_addStep 1 = .ok (.getfield 21, 3) := by decide +kernel
theorem dX5_addStep_4 : decode cX5_addStep 4 = .ok (.aload_n 0, 1) := by decide +kernel
theorem dX5_addStep_5 : decode cX5_addStep 5 = .ok (.getfield 11, 3) := by decide +kernel
theorem dX5_addStep_8 : decode cX5_addStep 8 = .ok (.arraylength, 1) := by decide +kernel
theorem dX5_addStep_9 : decode cX5_addStep 9 = .ok (.if_icmp .ge 43, 3) := by decide +kernel
theorem dX5_addStep_12 : decode cX5_addStep 12 = .ok (.aload_n 0, 1) := by decide +kernel
theorem dX5_addStep_13 : decode cX5_addStep 13 = .ok (.getfield 11, 3) := by decide +kernel
theorem dX5_addStep_16 : decode cX5_addStep 16 = .ok (.aload_n 0, 1) := by decide +kernel
theorem dX5_addStep_17 : decode cX5_addStep 17 = .ok (.getfield 21, 3) := by decide +kernel
theorem dX5_addStep_20 : decode cX5_addStep 20 = .ok (.iload_n 1, 1) := by decide +kernel
theorem dX5_addStep_21 : decode cX5_addStep 21 = .ok (.iastore, 1) := by decide +kernel
theorem dX5_addStep_22 : decode cX5_addStep 22 = .ok (.aload_n 0, 1) := by decide +kernel
theorem dX5_addStep_23 : decode cX5_addStep 23 = .ok (.getfield 15, 3) := by decide +kernel
theorem dX5_addStep_26 : decode cX5_addStep 26 = .ok (.aload_n 0, 1) := by decide +kernel
theorem dX5_addStep_27 : decode cX5_addStep 27 = .ok (.getfield 21, 3) := by decide +kernel
theorem dX5_addStep_30 : decode cX5_addStep 30 = .ok (.iload_n 2, 1) := by decide +kernel
theorem dX5_addStep_31 : decode cX5_addStep 31 = .ok (.iastore, 1) := by decide +kernel
theorem dX5_addStep_32 : decode cX5_addStep 32 = .ok (.aload_n 0, 1) := by decide +kernel
theorem dX5_addStep_33 : decode cX5_addStep 33 = .ok (.getfield 18, 3) := by decide +kernel
theorem dX5_addStep_36 : decode cX5_addStep 36 = .ok (.aload_n 0, 1) := by decide +kernel
theorem dX5_addStep_37 : decode cX5_addStep 37 = .ok (.getfield 21, 3) := by decide +kernel
theorem dX5_addStep_40 : decode cX5_addStep 40 = .ok (.iload_n 3, 1) := by decide +kernel
theorem dX5_addStep_41 : decode cX5_addStep 41 = .ok (.iastore, 1) := by decide +kernel
theorem dX5_addStep_42 : decode cX5_addStep 42 = .ok (.aload_n 0, 1) := by decide +kernel
theorem dX5_addStep_43 : decode cX5_addStep 43 = .ok (.dup, 1) := by decide +kernel
theorem dX5_addStep_44 : decode cX5_addStep 44 = .ok (.getfield 21, 3) := by decide +kernel
theorem dX5_addStep_47 : decode cX5_addStep 47 = .ok (.iconst 1, 1) := by decide +kernel
theorem dX5_addStep_48 : decode cX5_addStep 48 = .ok (.iadd, 1) := by decide +kernel
theorem dX5_addStep_49 : decode cX5_addStep 49 = .ok (.putfield 21, 3) := by decide +kernel
theorem dX5_addStep_52 : decode cX5_addStep 52 = .ok (.return_, 1) := by decide +kernel
theorem dX5_compares_0 : decode cX5_compares 0 = .ok (.iload_n 1, 1) := by decide +kernel
theorem dX5_compares_1 : decode cX5_compares 1 = .ok (.bipush 60, 2) := by decide +kernel
theorem dX5_compares_3 : decode cX5_compares 3 = .ok (.if_icmp .ne 14, 3) := by decide +kernel
theorem dX5_compares_6 : decode cX5_compares 6 = .ok (.iload_n 0, 1) := by decide +kernel
theorem dX5_compares_7 : decode cX5_compares 7 = .ok (.iload_n 2, 1) := by decide +kernel
theorem dX5_compares_8 : decode cX5_compares 8 = .ok (.if_icmp .ge 7, 3) := by decide +kernel
theorem dX5_compares_11 : decode cX5_compares 11 = .ok (.iconst 1, 1) := by decide +kernel
theorem dX5_compares_12 : decode cX5_compares 12 = .ok (.goto 4, 3) := by decide +kernel
theorem dX5_compares_15 : decode cX5_compares 15 = .ok (.iconst 0, 1) := by decide +kernel
theorem dX5_compares_16 : decode cX5_compares 16 = .ok (.ireturn, 1) := by decide +kernel
theorem dX5_compares_17 : decode cX5_compares 17 = .ok (.iload_n 1, 1) := by decide +kernel
theorem dX5_compares_18 : decode cX5_compares 18 = .ok (.bipush 62, 2) := by decide +kernel
theorem dX5_compares_20 : decode cX5_compares 20 = .ok (.if_icmp .ne 16, 3) := by decide +kernel
theorem dX5_compares_23 : decode cX5_compares 23 = .ok (.iload_n 0, 1) := by decide +kernel
theorem dX5_compares_24 : decode cX5_compares 24 = .ok (.iload_n 2, 1) := by decide +kernel
theorem dX5_compares_25 : decode cX5_compares 25 = .ok (.if_icmp .le 7, 3) := by decide +kernel
theorem dX5_compares_28 : decode cX5_compares 28 = .ok (.iconst 1, 1) := by decide +kernel
theorem dX5_compares_29 : decode cX5_compares 29 = .ok (.goto 17, 3) := by decide +kernel
theorem dX5_compares_32 : decode cX5_compares 32 = .ok (.iconst 0, 1) := by decide +kernel
theorem dX5_compares_33 : decode cX5_compares 33 = .ok (.goto 13, 3) := by decide +kernel
theorem dX5_compares_36 : decode cX5_compares 36 = .ok (.iload_n 0, 1) := by decide +kernel
theorem dX5_compares_37 : decode cX5_compares 37 = .ok (.iload_n 2, 1) := by decide +kernel
theorem dX5_compares_38 : decode cX5_compares 38 = .ok (.if_icmp .ne 7, 3) := by decide +kernel
theorem dX5_compares_41 : decode cX5_compares 41 = .ok (.iconst 1, 1) := by decide +kernel
theorem dX5_compares_42 : decode cX5_compares 42 = .ok (.goto 4, 3) := by decide +kernel
theorem dX5_compares_45 : decode cX5_compares 45 = .ok (.iconst 0, 1) := by decide +kernel
theorem dX5_compares_46 : decode cX5_compares 46 = .ok (.ireturn, 1) := by decide +kernel
theorem dX5_holdsOf_0 : decode cX5_holdsOf 0 = .ok (.iconst 0, 1) := by decide +kernel
theorem dX5_holdsOf_1 : decode cX5_holdsOf 1 = .ok (.istore_n 3, 1) := by decide +kernel
theorem dX5_holdsOf_2 : decode cX5_holdsOf 2 = .ok (.iconst 0, 1) := by decide +kernel
theorem dX5_holdsOf_3 : decode cX5_holdsOf 3 = .ok (.istore 4, 2) := by decide +kernel
theorem dX5_holdsOf_5 : decode cX5_holdsOf 5 = .ok (.iload 4, 2) := by decide +kernel
theorem dX5_holdsOf_7 : decode cX5_holdsOf 7 = .ok (.aload_n 0, 1) := by decide +kernel
theorem dX5_holdsOf_8 : decode cX5_holdsOf 8 = .ok (.getfield 21, 3) := by decide +kernel
theorem dX5_holdsOf_11 : decode cX5_holdsOf 11 = .ok (.if_icmp .ge 98, 3) := by decide +kernel
theorem dX5_holdsOf_14 : decode cX5_holdsOf 14 = .ok (.iload_n 3, 1) := by decide +kernel
theorem dX5_holdsOf_15 : decode cX5_holdsOf 15 = .ok (.iconst 1, 1) := by decide +kernel
theorem dX5_holdsOf_16 : decode cX5_holdsOf 16 = .ok (.iand, 1) := by decide +kernel
theorem dX5_holdsOf_17 : decode cX5_holdsOf 17 = .ok (.istore 5, 2) := by decide +kernel
theorem dX5_holdsOf_19 : decode cX5_holdsOf 19 = .ok (.aload_n 0, 1) := by decide +kernel
theorem dX5_holdsOf_20 : decode cX5_holdsOf 20 = .ok (.getfield 11, 3) := by decide +kernel
theorem dX5_holdsOf_23 : decode cX5_holdsOf 23 = .ok (.iload 4, 2) := by decide +kernel
theorem dX5_holdsOf_25 : decode cX5_holdsOf 25 = .ok (.iaload, 1) := by decide +kernel
theorem dX5_holdsOf_26 : decode cX5_holdsOf 26 = .ok (.tableswitch 56 144 146 #[46, 33, 26], 26) := by decide +kernel
theorem dX5_holdsOf_52 : decode cX5_holdsOf 52 = .ok (.iload_n 3, 1) := by decide +kernel
theorem dX5_holdsOf_53 : decode cX5_holdsOf 53 = .ok (.iconst 1, 1) := by decide +kernel
theorem dX5_holdsOf_54 : decode cX5_holdsOf 54 = .ok (.ixor, 1) := by decide +kernel
theorem dX5_holdsOf_55 : decode cX5_holdsOf 55 = .ok (.istore_n 3, 1) := by decide +kernel
theorem dX5_holdsOf_56 : decode cX5_holdsOf 56 = .ok (.goto 47, 3) := by decide +kernel
theorem dX5_holdsOf_59 : decode cX5_holdsOf 59 = .ok (.iload_n 3, 1) := by decide +kernel
theorem dX5_holdsOf_60 : decode cX5_holdsOf 60 = .ok (.iconst 1, 1) := by decide +kernel
theorem dX5_holdsOf_61 : decode cX5_holdsOf 61 = .ok (.ishr, 1) := by decide +kernel
theorem dX5_holdsOf_62 : decode cX5_holdsOf 62 = .ok (.iload 5, 2) := by decide +kernel
theorem dX5_holdsOf_64 : decode cX5_holdsOf 64 = .ok (.bipush (-2), 2) := by decide +kernel
theorem dX5_holdsOf_66 : decode cX5_holdsOf 66 = .ok (.ior, 1) := by decide +kernel
theorem dX5_holdsOf_67 : decode cX5_holdsOf 67 = .ok (.iand, 1) := by decide +kernel
theorem dX5_holdsOf_68 : decode cX5_holdsOf 68 = .ok (.istore_n 3, 1) := by decide +kernel
theorem dX5_holdsOf_69 : decode cX5_holdsOf 69 = .ok (.goto 34, 3) := by decide +kernel
theorem dX5_holdsOf_72 : decode cX5_holdsOf 72 = .ok (.iload_n 3, 1) := by decide +kernel
theorem dX5_holdsOf_73 : decode cX5_holdsOf 73 = .ok (.iconst 1, 1) := by decide +kernel
theorem dX5_holdsOf_74 : decode cX5_holdsOf 74 = .ok (.ishr, 1) := by decide +kernel
theorem dX5_holdsOf_75 : decode cX5_holdsOf 75 = .ok (.iload 5, 2) := by decide +kernel
theorem dX5_holdsOf_77 : decode cX5_holdsOf 77 = .ok (.ior, 1) := by decide +kernel
theorem dX5_holdsOf_78 : decode cX5_holdsOf 78 = .ok (.istore_n 3, 1) := by decide +kernel
theorem dX5_holdsOf_79 : decode cX5_holdsOf 79 = .ok (.goto 24, 3) := by decide +kernel
theorem dX5_holdsOf_82 : decode cX5_holdsOf 82 = .ok (.iload_n 3, 1) := by decide +kernel
theorem dX5_holdsOf_83 : decode cX5_holdsOf 83 = .ok (.iconst 1, 1) := by decide +kernel
theorem dX5_holdsOf_84 : decode cX5_holdsOf 84 = .ok (.ishl, 1) := by decide +kernel
theorem dX5_holdsOf_85 : decode cX5_holdsOf 85 = .ok (.aload_n 0, 1) := by decide +kernel
theorem dX5_holdsOf_86 : decode cX5_holdsOf 86 = .ok (.aload_n 1, 1) := by decide +kernel
theorem dX5_holdsOf_87 : decode cX5_holdsOf 87 = .ok (.iload_n 2, 1) := by decide +kernel
theorem dX5_holdsOf_88 : decode cX5_holdsOf 88 = .ok (.iload 4, 2) := by decide +kernel
theorem dX5_holdsOf_90 : decode cX5_holdsOf 90 = .ok (.invokevirtual 79, 3) := by decide +kernel
theorem dX5_holdsOf_93 : decode cX5_holdsOf 93 = .ok (.ifCond .eq 7, 3) := by decide +kernel
theorem dX5_holdsOf_96 : decode cX5_holdsOf 96 = .ok (.iconst 1, 1) := by decide +kernel
theorem dX5_holdsOf_97 : decode cX5_holdsOf 97 = .ok (.goto 4, 3) := by decide +kernel
theorem dX5_holdsOf_100 : decode cX5_holdsOf 100 = .ok (.iconst 0, 1) := by decide +kernel
theorem dX5_holdsOf_101 : decode cX5_holdsOf 101 = .ok (.ior, 1) := by decide +kernel
theorem dX5_holdsOf_102 : decode cX5_holdsOf 102 = .ok (.istore_n 3, 1) := by decide +kernel
theorem dX5_holdsOf_103 : decode cX5_holdsOf 103 = .ok (.iinc 4 1, 3) := by decide +kernel
theorem dX5_holdsOf_106 : decode cX5_holdsOf 106 = .ok (.goto (-101), 3) := by decide +kernel
theorem dX5_holdsOf_109 : decode cX5_holdsOf 109 = .ok (.iload_n 3, 1) := by decide +kernel
theorem dX5_holdsOf_110 : decode cX5_holdsOf 110 = .ok (.iconst 1, 1) := by decide +kernel
theorem dX5_holdsOf_111 : decode cX5_holdsOf 111 = .ok (.iand, 1) := by decide +kernel
theorem dX5_holdsOf_112 : decode cX5_holdsOf 112 = .ok (.ifCond .eq 7, 3) := by decide +kernel
theorem dX5_holdsOf_115 : decode cX5_holdsOf 115 = .ok (.iconst 1, 1) := by decide +kernel
theorem dX5_holdsOf_116 : decode cX5_holdsOf 116 = .ok (.goto 4, 3) := by decide +kernel
theorem dX5_holdsOf_119 : decode cX5_holdsOf 119 = .ok (.iconst 0, 1) := by decide +kernel
theorem dX5_holdsOf_120 : decode cX5_holdsOf 120 = .ok (.ireturn, 1) := by decide +kernel
theorem dX5_isSo_0 : decode cX5_isSo 0 = .ok (.aload_n 0, 1) := by decide +kernel
theorem dX5_isSo_1 : decode cX5_isSo 1 = .ok (.getfield 18, 3) := by decide +kernel
theorem dX5_isSo_4 : decode cX5_isSo 4 = .ok (.iload_n 3, 1) := by decide +kernel
theorem dX5_isSo_5 : decode cX5_isSo 5 = .ok (.iaload, 1) := by decide +kernel
theorem dX5_isSo_6 : decode cX5_isSo 6 = .ok (.istore 4, 2) := by decide +kernel
theorem dX5_isSo_8 : decode cX5_isSo 8 = .ok (.aload_n 0, 1) := by decide +kernel
theorem dX5_isSo_9 : decode cX5_isSo 9 = .ok (.getfield 11, 3) := by decide +kernel
theorem dX5_isSo_12 : decode cX5_isSo 12 = .ok (.iload_n 3, 1) := by decide +kernel
theorem dX5_isSo_13 : decode cX5_isSo 13 = .ok (.iaload, 1) := by decide +kernel
theorem dX5_isSo_14 : decode cX5_isSo 14 = .ok (.tableswitch 167 147 154 #[46, 52, 67, 81, 97, 114, 131, 149], 46) := by decide +kernel
theorem dX5_isSo_60 : decode cX5_isSo 60 = .ok (.aload_n 1, 1) := by decide +kernel
theorem dX5_isSo_61 : decode cX5_isSo 61 = .ok (.iload_n 2, 1) := by decide +kernel
theorem dX5_isSo_62 : decode cX5_isSo 62 = .ok (.invokevirtual 83, 3) := by decide +kernel
theorem dX5_isSo_65 : decode cX5_isSo 65 = .ok (.ireturn, 1) := by decide +kernel
theorem dX5_isSo_66 : decode cX5_isSo 66 = .ok (.aload_n 1, 1) := by decide +kernel
theorem dX5_isSo_67 : decode cX5_isSo 67 = .ok (.iload_n 2, 1) := by decide +kernel
theorem dX5_isSo_68 : decode cX5_isSo 68 = .ok (.invokevirtual 88, 3) := by decide +kernel
theorem dX5_isSo_71 : decode cX5_isSo 71 = .ok (.iconst (-1), 1) := by decide +kernel
theorem dX5_isSo_72 : decode cX5_isSo 72 = .ok (.if_icmp .ne 7, 3) := by decide +kernel
theorem dX5_isSo_75 : decode cX5_isSo 75 = .ok (.iconst 1, 1) := by decide +kernel
theorem dX5_isSo_76 : decode cX5_isSo 76 = .ok (.goto 4, 3) := by decide +kernel
theorem dX5_isSo_79 : decode cX5_isSo 79 = .ok (.iconst 0, 1) := by decide +kernel
theorem dX5_isSo_80 : decode cX5_isSo 80 = .ok (.ireturn, 1) := by decide +kernel
theorem dX5_isSo_81 : decode cX5_isSo 81 = .ok (.aload_n 1, 1) := by decide +kernel
theorem dX5_isSo_82 : decode cX5_isSo 82 = .ok (.iload_n 2, 1) := by decide +kernel
theorem dX5_isSo_83 : decode cX5_isSo 83 = .ok (.invokevirtual 92, 3) := by decide +kernel
theorem dX5_isSo_86 : decode cX5_isSo 86 = .ok (.ifCond .eq 7, 3) := by decide +kernel
theorem dX5_isSo_89 : decode cX5_isSo 89 = .ok (.iconst 1, 1) := by decide +kernel
theorem dX5_isSo_90 : decode cX5_isSo 90 = .ok (.goto 4, 3) := by decide +kernel
theorem dX5_isSo_93 : decode cX5_isSo 93 = .ok (.iconst 0, 1) := by decide +kernel
theorem dX5_isSo_94 : decode cX5_isSo 94 = .ok (.ireturn, 1) := by decide +kernel
theorem dX5_isSo_95 : decode cX5_isSo 95 = .ok (.aload_n 1, 1) := by decide +kernel
theorem dX5_isSo_96 : decode cX5_isSo 96 = .ok (.iload_n 2, 1) := by decide +kernel
theorem dX5_isSo_97 : decode cX5_isSo 97 = .ok (.invokevirtual 88, 3) := by decide +kernel
theorem dX5_isSo_100 : decode cX5_isSo 100 = .ok (.iload 4, 2) := by decide +kernel
theorem dX5_isSo_102 : decode cX5_isSo 102 = .ok (.if_icmp .ne 7, 3) := by decide +kernel
theorem dX5_isSo_105 : decode cX5_isSo 105 = .ok (.iconst 1, 1) := by decide +kernel
theorem dX5_isSo_106 : decode cX5_isSo 106 = .ok (.goto 4, 3) := by decide +kernel
theorem dX5_isSo_109 : decode cX5_isSo 109 = .ok (.iconst 0, 1) := by decide +kernel
theorem dX5_isSo_110 : decode cX5_isSo 110 = .ok (.ireturn, 1) := by decide +kernel
theorem dX5_isSo_111 : decode cX5_isSo 111 = .ok (.aload_n 1, 1) := by decide +kernel
theorem dX5_isSo_112 : decode cX5_isSo 112 = .ok (.getfield 95, 3) := by decide +kernel
theorem dX5_isSo_115 : decode cX5_isSo 115 = .ok (.iload_n 2, 1) := by decide +kernel
theorem dX5_isSo_116 : decode cX5_isSo 116 = .ok (.iaload, 1) := by decide +kernel
theorem dX5_isSo_117 : decode cX5_isSo 117 = .ok (.iload 4, 2) := by decide +kernel
theorem dX5_isSo_119 : decode cX5_isSo 119 = .ok (.if_icmp .ne 7, 3) := by decide +kernel
theorem dX5_isSo_122 : decode cX5_isSo 122 = .ok (.iconst 1, 1) := by decide +kernel
theorem dX5_isSo_123 : decode cX5_isSo 123 = .ok (.goto 4, 3) := by decide +kernel
theorem dX5_isSo_126 : decode cX5_isSo 126 = .ok (.iconst 0, 1) := by decide +kernel
theorem dX5_isSo_127 : decode cX5_isSo 127 = .ok (.ireturn, 1) := by decide +kernel
theorem dX5_isSo_128 : decode cX5_isSo 128 = .ok (.aload_n 1, 1) := by decide +kernel
theorem dX5_isSo_129 : decode cX5_isSo 129 = .ok (.iload_n 2, 1) := by decide +kernel
theorem dX5_isSo_130 : decode cX5_isSo 130 = .ok (.invokevirtual 98, 3) := by decide +kernel
theorem dX5_isSo_133 : decode cX5_isSo 133 = .ok (.aload_n 0, 1) := by decide +kernel
theorem dX5_isSo_134 : decode cX5_isSo 134 = .ok (.getfield 15, 3) := by decide +kernel
theorem dX5_isSo_137 : decode cX5_isSo 137 = .ok (.iload_n 3, 1) := by decide +kernel
theorem dX5_isSo_138 : decode cX5_isSo 138 = .ok (.iaload, 1) := by decide +kernel
theorem dX5_isSo_139 : decode cX5_isSo 139 = .ok (.iload 4, 2) := by decide +kernel
theorem dX5_isSo_141 : decode cX5_isSo 141 = .ok (.invokestatic 101, 3) := by decide +kernel
theorem dX5_isSo_144 : decode cX5_isSo 144 = .ok (.ireturn, 1) := by decide +kernel
theorem dX5_isSo_145 : decode cX5_isSo 145 = .ok (.aload_n 1, 1) := by decide +kernel
theorem dX5_isSo_146 : decode cX5_isSo 146 = .ok (.getfield 105, 3) := by decide +kernel
theorem dX5_isSo_149 : decode cX5_isSo 149 = .ok (.iload_n 2, 1) := by decide +kernel
theorem dX5_isSo_150 : decode cX5_isSo 150 = .ok (.iaload, 1) := by decide +kernel
theorem dX5_isSo_151 : decode cX5_isSo 151 = .ok (.aload_n 0, 1) := by decide +kernel
theorem dX5_isSo_152 : decode cX5_isSo 152 = .ok (.getfield 15, 3) := by decide +kernel
theorem dX5_isSo_155 : decode cX5_isSo 155 = .ok (.iload_n 3, 1) := by decide +kernel
theorem dX5_isSo_156 : decode cX5_isSo 156 = .ok (.iaload, 1) := by decide +kernel
theorem dX5_isSo_157 : decode cX5_isSo 157 = .ok (.iload 4, 2) := by decide +kernel
theorem dX5_isSo_159 : decode cX5_isSo 159 = .ok (.invokestatic 101, 3) := by decide +kernel
theorem dX5_isSo_162 : decode cX5_isSo 162 = .ok (.ireturn, 1) := by decide +kernel
theorem dX5_isSo_163 : decode cX5_isSo 163 = .ok (.aload_n 1, 1) := by decide +kernel
theorem dX5_isSo_164 : decode cX5_isSo 164 = .ok (.getfield 108, 3) := by decide +kernel
theorem dX5_isSo_167 : decode cX5_isSo 167 = .ok (.iload_n 2, 1) := by decide +kernel
theorem dX5_isSo_168 : decode cX5_isSo 168 = .ok (.iaload, 1) := by decide +kernel
theorem dX5_isSo_169 : decode cX5_isSo 169 = .ok (.aload_n 0, 1) := by decide +kernel
theorem dX5_isSo_170 : decode cX5_isSo 170 = .ok (.getfield 15, 3) := by decide +kernel
theorem dX5_isSo_173 : decode cX5_isSo 173 = .ok (.iload_n 3, 1) := by decide +kernel
theorem dX5_isSo_174 : decode cX5_isSo 174 = .ok (.iaload, 1) := by decide +kernel
theorem dX5_isSo_175 : decode cX5_isSo 175 = .ok (.iload 4, 2) := by decide +kernel
theorem dX5_isSo_177 : decode cX5_isSo 177 = .ok (.invokestatic 101, 3) := by decide +kernel
theorem dX5_isSo_180 : decode cX5_isSo 180 = .ok (.ireturn, 1) := by decide +kernel
theorem dX5_isSo_181 : decode cX5_isSo 181 = .ok (.iload_n 2, 1) := by decide +kernel
theorem dX5_isSo_182 : decode cX5_isSo 182 = .ok (.aload_n 0, 1) := by decide +kernel
theorem dX5_isSo_183 : decode cX5_isSo 183 = .ok (.getfield 15, 3) := by decide +kernel
theorem dX5_isSo_186 : decode cX5_isSo 186 = .ok (.iload_n 3, 1) := by decide +kernel
theorem dX5_isSo_187 : decode cX5_isSo 187 = .ok (.iaload, 1) := by decide +kernel
theorem dX5_isSo_188 : decode cX5_isSo 188 = .ok (.iload 4, 2) := by decide +kernel
theorem dX5_isSo_190 : decode cX5_isSo 190 = .ok (.invokestatic 101, 3) := by decide +kernel
theorem dX5_isSo_193 : decode cX5_isSo 193 = .ok (.ireturn, 1) := by decide +kernel
theorem dX5_read_0 : decode cX5_read 0 = .ok (.aload_n 1, 1) := by decide +kernel
theorem dX5_read_1 : decode cX5_read 1 = .ok (.sipush 200, 3) := by decide +kernel
theorem dX5_read_4 : decode cX5_read 4 = .ok (.invokevirtual 28, 3) := by decide +kernel
theorem dX5_read_7 : decode cX5_read 7 = .ok (.aload_n 0, 1) := by decide +kernel
theorem dX5_read_8 : decode cX5_read 8 = .ok (.aload_n 1, 1) := by decide +kernel
theorem dX5_read_9 : decode cX5_read 9 = .ok (.aload_n 2, 1) := by decide +kernel
theorem dX5_read_10 : decode cX5_read 10 = .ok (.iconst 1, 1) := by decide +kernel
theorem dX5_read_11 : decode cX5_read 11 = .ok (.invokevirtual 34, 3) := by decide +kernel
theorem dX5_read_14 : decode cX5_read 14 = .ok (.aload_n 1, 1) := by decide +kernel
theorem dX5_read_15 : decode cX5_read 15 = .ok (.invokevirtual 38, 3) := by decide +kernel
theorem dX5_read_18 : decode cX5_read 18 = .ok (.ifCond .eq 8, 3) := by decide +kernel
theorem dX5_read_21 : decode cX5_read 21 = .ok (.aload_n 1, 1) := by decide +kernel
theorem dX5_read_22 : decode cX5_read 22 = .ok (.iconst 1, 1) := by decide +kernel
theorem dX5_read_23 : decode cX5_read 23 = .ok (.invokevirtual 42, 3) := by decide +kernel
theorem dX5_read_26 : decode cX5_read 26 = .ok (.return_, 1) := by decide +kernel
theorem dX5_readCond_0 : decode cX5_readCond 0 = .ok (.iconst 0, 1) := by decide +kernel
theorem dX5_readCond_1 : decode cX5_readCond 1 = .ok (.istore 4, 2) := by decide +kernel
theorem dX5_readCond_3 : decode cX5_readCond 3 = .ok (.aload_n 0, 1) := by decide +kernel
theorem dX5_readCond_4 : decode cX5_readCond 4 = .ok (.aload_n 1, 1) := by decide +kernel
theorem dX5_readCond_5 : decode cX5_readCond 5 = .ok (.aload_n 2, 1) := by decide +kernel
theorem dX5_readCond_6 : decode cX5_readCond 6 = .ok (.iload_n 3, 1) := by decide +kernel
theorem dX5_readCond_7 : decode cX5_readCond 7 = .ok (.invokevirtual 45, 3) := by decide +kernel
theorem dX5_readCond_10 : decode cX5_readCond 10 = .ok (.iconst 0, 1) := by decide +kernel
theorem dX5_readCond_11 : decode cX5_readCond 11 = .ok (.istore 5, 2) := by decide +kernel
theorem dX5_readCond_13 : decode cX5_readCond 13 = .ok (.iload 5, 2) := by decide +kernel
theorem dX5_readCond_15 : decode cX5_readCond 15 = .ok (.bipush 20, 2) := by decide +kernel
theorem dX5_readCond_17 : decode cX5_readCond 17 = .ok (.if_icmp .ge 89, 3) := by decide +kernel
theorem dX5_readCond_20 : decode cX5_readCond 20 = .ok (.aload_n 1, 1) := by decide +kernel
theorem dX5_readCond_21 : decode cX5_readCond 21 = .ok (.sipush 144, 3) := by decide +kernel
theorem dX5_readCond_24 : decode cX5_readCond 24 = .ok (.invokevirtual 48, 3) := by decide +kernel
theorem dX5_readCond_27 : decode cX5_readCond 27 = .ok (.ifCond .ne 13, 3) := by decide +kernel
theorem dX5_readCond_30 : decode cX5_readCond 30 = .ok (.aload_n 1, 1) := by decide +kernel
theorem dX5_readCond_31 : decode cX5_readCond 31 = .ok (.sipush 145, 3) := by decide +kernel
theorem dX5_readCond_34 : decode cX5_readCond 34 = .ok (.invokevirtual 48, 3) := by decide +kernel
theorem dX5_readCond_37 : decode cX5_readCond 37 = .ok (.ifCond .eq 69, 3) := by decide +kernel
theorem dX5_readCond_40 : decode cX5_readCond 40 = .ok (.aload_n 1, 1) := by decide +kernel
theorem dX5_readCond_41 : decode cX5_readCond 41 = .ok (.sipush 144, 3) := by decide +kernel
theorem dX5_readCond_44 : decode cX5_readCond 44 = .ok (.invokevirtual 48, 3) := by decide +kernel
theorem dX5_readCond_47 : decode cX5_readCond 47 = .ok (.istore 6, 2) := by decide +kernel
theorem dX5_readCond_49 : decode cX5_readCond 49 = .ok (.aload_n 1, 1) := by decide +kernel
theorem dX5_readCond_50 : decode cX5_readCond 50 = .ok (.invokevirtual 52, 3) := by decide +kernel
theorem dX5_readCond_53 : decode cX5_readCond 53 = .ok (.iload 6, 2) := by decide +kernel
theorem dX5_readCond_55 : decode cX5_readCond 55 = .ok (.ifCond .eq 17, 3) := by decide +kernel
theorem dX5_readCond_58 : decode cX5_readCond 58 = .ok (.iload 4, 2) := by decide +kernel
theorem dX5_readCond_60 : decode cX5_readCond 60 = .ok (.ifCond .eq 12, 3) := by decide +kernel
theorem dX5_readCond_63 : decode cX5_readCond 63 = .ok (.aload_n 0, 1) := by decide +kernel
theorem dX5_readCond_64 : decode cX5_readCond 64 = .ok (.sipush 144, 3) := by decide +kernel
theorem dX5_readCond_67 : decode cX5_readCond 67 = .ok (.iconst 0, 1) := by decide +kernel
theorem dX5_readCond_68 : decode cX5_readCond 68 = .ok (.iconst 0, 1) := by decide +kernel
theorem dX5_readCond_69 : decode cX5_readCond 69 = .ok (.invokevirtual 55, 3) := by decide +kernel
theorem dX5_readCond_72 : decode cX5_readCond 72 = .ok (.iload 4, 2) := by decide +kernel
theorem dX5_readCond_74 : decode cX5_readCond 74 = .ok (.iload 6, 2) := by decide +kernel
theorem dX5_readCond_76 : decode cX5_readCond 76 = .ok (.ior, 1) := by decide +kernel
theorem dX5_readCond_77 : decode cX5_readCond 77 = .ok (.istore 4, 2) := by decide +kernel
theorem dX5_readCond_79 : decode cX5_readCond 79 = .ok (.aload_n 0, 1) := by decide +kernel
theorem dX5_readCond_80 : decode cX5_readCond 80 = .ok (.aload_n 1, 1) := by decide +kernel
theorem dX5_readCond_81 : decode cX5_readCond 81 = .ok (.aload_n 2, 1) := by decide +kernel
theorem dX5_readCond_82 : decode cX5_readCond 82 = .ok (.iload_n 3, 1) := by decide +kernel
theorem dX5_readCond_83 : decode cX5_readCond 83 = .ok (.invokevirtual 45, 3) := by decide +kernel
theorem dX5_readCond_86 : decode cX5_readCond 86 = .ok (.iload 6, 2) := by decide +kernel
theorem dX5_readCond_88 : decode cX5_readCond 88 = .ok (.ifCond .ne 12, 3) := by decide +kernel
theorem dX5_readCond_91 : decode cX5_readCond 91 = .ok (.aload_n 0, 1) := by decide +kernel
theorem dX5_readCond_92 : decode cX5_readCond 92 = .ok (.sipush 145, 3) := by decide +kernel
theorem dX5_readCond_95 : decode cX5_readCond 95 = .ok (.iconst 0, 1) := by decide +kernel
theorem dX5_readCond_96 : decode cX5_readCond 96 = .ok (.iconst 0, 1) := by decide +kernel
theorem dX5_readCond_97 : decode cX5_readCond 97 = .ok (.invokevirtual 55, 3) := by decide +kernel
theorem dX5_readCond_100 : decode cX5_readCond 100 = .ok (.iinc 5 1, 3) := by decide +kernel
theorem dX5_readCond_103 : decode cX5_readCond 103 = .ok (.goto (-90), 3) := by decide +kernel
theorem dX5_readCond_106 : decode cX5_readCond 106 = .ok (.iload 4, 2) := by decide +kernel
theorem dX5_readCond_108 : decode cX5_readCond 108 = .ok (.ifCond .eq 12, 3) := by decide +kernel
theorem dX5_readCond_111 : decode cX5_readCond 111 = .ok (.aload_n 0, 1) := by decide +kernel
theorem dX5_readCond_112 : decode cX5_readCond 112 = .ok (.sipush 144, 3) := by decide +kernel
theorem dX5_readCond_115 : decode cX5_readCond 115 = .ok (.iconst 0, 1) := by decide +kernel
theorem dX5_readCond_116 : decode cX5_readCond 116 = .ok (.iconst 0, 1) := by decide +kernel
theorem dX5_readCond_117 : decode cX5_readCond 117 = .ok (.invokevirtual 55, 3) := by decide +kernel
theorem dX5_readCond_120 : decode cX5_readCond 120 = .ok (.return_, 1) := by decide +kernel
theorem dX5_readOne_0 : decode cX5_readOne 0 = .ok (.aload_n 1, 1) := by decide +kernel
theorem dX5_readOne_1 : decode cX5_readOne 1 = .ok (.getfield 59, 3) := by decide +kernel
theorem dX5_readOne_4 : decode cX5_readOne 4 = .ok (.istore 4, 2) := by decide +kernel
theorem dX5_readOne_6 : decode cX5_readOne 6 = .ok (.iload 4, 2) := by decide +kernel
theorem dX5_readOne_8 : decode cX5_readOne 8 = .ok (.bipush 40, 2) := by decide +kernel
theorem dX5_readOne_10 : decode cX5_readOne 10 = .ok (.if_icmp .eq 27, 3) := by decide +kernel
theorem dX5_readOne_13 : decode cX5_readOne 13 = .ok (.iload 4, 2) := by decide +kernel
theorem dX5_readOne_15 : decode cX5_readOne 15 = .ok (.sipush 146, 3) := by decide +kernel
theorem dX5_readOne_18 : decode cX5_readOne 18 = .ok (.if_icmp .lt 11, 3) := by decide +kernel
theorem dX5_readOne_21 : decode cX5_readOne 21 = .ok (.iload 4, 2) := by decide +kernel
theorem dX5_readOne_23 : decode cX5_readOne 23 = .ok (.sipush 155, 3) := by decide +kernel
theorem dX5_readOne_26 : decode cX5_readOne 26 = .ok (.if_icmp .le 11, 3) := by decide +kernel
theorem dX5_readOne_29 : decode cX5_readOne 29 = .ok (.aload_n 1, 1) := by decide +kernel
theorem dX5_readOne_30 : decode cX5_readOne 30 = .ok (.iconst 1, 1) := by decide +kernel
theorem dX5_readOne_31 : decode cX5_readOne 31 = .ok (.invokevirtual 42, 3) := by decide +kernel
theorem dX5_readOne_34 : decode cX5_readOne 34 = .ok (.goto 23, 3) := by decide +kernel
theorem dX5_readOne_37 : decode cX5_readOne 37 = .ok (.aload_n 0, 1) := by decide +kernel
theorem dX5_readOne_38 : decode cX5_readOne 38 = .ok (.getfield 25, 3) := by decide +kernel
theorem dX5_readOne_41 : decode cX5_readOne 41 = .ok (.bipush 20, 2) := by decide +kernel
theorem dX5_readOne_43 : decode cX5_readOne 43 = .ok (.if_icmp .ge 9, 3) := by decide +kernel
theorem dX5_readOne_46 : decode cX5_readOne 46 = .ok (.iload_n 3, 1) := by decide +kernel
theorem dX5_readOne_47 : decode cX5_readOne 47 = .ok (.bipush 8, 2) := by decide +kernel
theorem dX5_readOne_49 : decode cX5_readOne 49 = .ok (.if_icmp .le 8, 3) := by decide +kernel
theorem dX5_readOne_52 : decode cX5_readOne 52 = .ok (.aload_n 1, 1) := by decide +kernel
theorem dX5_readOne_53 : decode cX5_readOne 53 = .ok (.iconst 4, 1) := by decide +kernel
theorem dX5_readOne_54 : decode cX5_readOne 54 = .ok (.invokevirtual 42, 3) := by decide +kernel
theorem dX5_readOne_57 : decode cX5_readOne 57 = .ok (.aload_n 1, 1) := by decide +kernel
theorem dX5_readOne_58 : decode cX5_readOne 58 = .ok (.getfield 62, 3) := by decide +kernel
theorem dX5_readOne_61 : decode cX5_readOne 61 = .ok (.ifCond .eq 4, 3) := by decide +kernel
theorem dX5_readOne_64 : decode cX5_readOne 64 = .ok (.return_, 1) := by decide +kernel
theorem dX5_readOne_65 : decode cX5_readOne 65 = .ok (.aload_n 1, 1) := by decide +kernel
theorem dX5_readOne_66 : decode cX5_readOne 66 = .ok (.invokevirtual 52, 3) := by decide +kernel
theorem dX5_readOne_69 : decode cX5_readOne 69 = .ok (.aload_n 0, 1) := by decide +kernel
theorem dX5_readOne_70 : decode cX5_readOne 70 = .ok (.dup, 1) := by decide +kernel
theorem dX5_readOne_71 : decode cX5_readOne 71 = .ok (.getfield 25, 3) := by decide +kernel
theorem dX5_readOne_74 : decode cX5_readOne 74 = .ok (.iconst 1, 1) := by decide +kernel
theorem dX5_readOne_75 : decode cX5_readOne 75 = .ok (.iadd, 1) := by decide +kernel
theorem dX5_readOne_76 : decode cX5_readOne 76 = .ok (.putfield 25, 3) := by decide +kernel
theorem dX5_readOne_79 : decode cX5_readOne 79 = .ok (.iload 4, 2) := by decide +kernel
theorem dX5_readOne_81 : decode cX5_readOne 81 = .ok (.sipush 146, 3) := by decide +kernel
theorem dX5_readOne_84 : decode cX5_readOne 84 = .ok (.if_icmp .ne 24, 3) := by decide +kernel
theorem dX5_readOne_87 : decode cX5_readOne 87 = .ok (.aload_n 0, 1) := by decide +kernel
theorem dX5_readOne_88 : decode cX5_readOne 88 = .ok (.aload_n 1, 1) := by decide +kernel
theorem dX5_readOne_89 : decode cX5_readOne 89 = .ok (.aload_n 2, 1) := by decide +kernel
theorem dX5_readOne_90 : decode cX5_readOne 90 = .ok (.iload_n 3, 1) := by decide +kernel
theorem dX5_readOne_91 : decode cX5_readOne 91 = .ok (.iconst 1, 1) := by decide +kernel
theorem dX5_readOne_92 : decode cX5_readOne 92 = .ok (.iadd, 1) := by decide +kernel
theorem dX5_readOne_93 : decode cX5_readOne 93 = .ok (.invokevirtual 45, 3) := by decide +kernel
theorem dX5_readOne_96 : decode cX5_readOne 96 = .ok (.aload_n 0, 1) := by decide +kernel
theorem dX5_readOne_97 : decode cX5_readOne 97 = .ok (.sipush 146, 3) := by decide +kernel
theorem dX5_readOne_100 : decode cX5_readOne 100 = .ok (.iconst 0, 1) := by decide +kernel
theorem dX5_readOne_101 : decode cX5_readOne 101 = .ok (.iconst 0, 1) := by decide +kernel
theorem dX5_readOne_102 : decode cX5_readOne 102 = .ok (.invokevirtual 55, 3) := by decide +kernel
theorem dX5_readOne_105 : decode cX5_readOne 105 = .ok (.goto 36, 3) := by decide +kernel
theorem dX5_readOne_108 : decode cX5_readOne 108 = .ok (.iload 4, 2) := by decide +kernel
theorem dX5_readOne_110 : decode cX5_readOne 110 = .ok (.bipush 40, 2) := by decide +kernel
theorem dX5_readOne_112 : decode cX5_readOne 112 = .ok (.if_icmp .ne 21, 3) := by decide +kernel
theorem dX5_readOne_115 : decode cX5_readOne 115 = .ok (.aload_n 0, 1) := by decide +kernel
theorem dX5_readOne_116 : decode cX5_readOne 116 = .ok (.aload_n 1, 1) := by decide +kernel
theorem dX5_readOne_117 : decode cX5_readOne 117 = .ok (.aload_n 2, 1) := by decide +kernel
theorem dX5_readOne_118 : decode cX5_readOne 118 = .ok (.iload_n 3, 1) := by decide +kernel
theorem dX5_readOne_119 : decode cX5_readOne 119 = .ok (.iconst 1, 1) := by decide +kernel
theorem dX5_readOne_120 : decode cX5_readOne 120 = .ok (.iadd, 1) := by decide +kernel
theorem dX5_readOne_121 : decode cX5_readOne 121 = .ok (.invokevirtual 34, 3) := by decide +kernel
theorem dX5_readOne_124 : decode cX5_readOne 124 = .ok (.aload_n 1, 1) := by decide +kernel
theorem dX5_readOne_125 : decode cX5_readOne 125 = .ok (.bipush 41, 2) := by decide +kernel
theorem dX5_readOne_127 : decode cX5_readOne 127 = .ok (.invokevirtual 65, 3) := by decide +kernel
theorem dX5_readOne_130 : decode cX5_readOne 130 = .ok (.goto 11, 3) := by decide +kernel
theorem dX5_readOne_133 : decode cX5_readOne 133 = .ok (.aload_n 0, 1) := by decide +kernel
theorem dX5_readOne_134 : decode cX5_readOne 134 = .ok (.aload_n 1, 1) := by decide +kernel
theorem dX5_readOne_135 : decode cX5_readOne 135 = .ok (.aload_n 2, 1) := by decide +kernel
theorem dX5_readOne_136 : decode cX5_readOne 136 = .ok (.iload 4, 2) := by decide +kernel
theorem dX5_readOne_138 : decode cX5_readOne 138 = .ok (.invokevirtual 68, 3) := by decide +kernel
theorem dX5_readOne_141 : decode cX5_readOne 141 = .ok (.return_, 1) := by decide +kernel
theorem dX5_readPlain_0 : decode cX5_readPlain 0 = .ok (.iload_n 3, 1) := by decide +kernel
theorem dX5_readPlain_1 : decode cX5_readPlain 1 = .ok (.sipush 150, 3) := by decide +kernel
theorem dX5_readPlain_4 : decode cX5_readPlain 4 = .ok (.if_icmp .ne 18, 3) := by decide +kernel
theorem dX5_readPlain_7 : decode cX5_readPlain 7 = .ok (.aload_n 0, 1) := by decide +kernel
theorem dX5_readPlain_8 : decode cX5_readPlain 8 = .ok (.iload_n 3, 1) := by decide +kernel
theorem dX5_readPlain_9 : decode cX5_readPlain 9 = .ok (.iconst 0, 1) := by decide +kernel
theorem dX5_readPlain_10 : decode cX5_readPlain 10 = .ok (.aload_n 1, 1) := by decide +kernel
theorem dX5_readPlain_11 : decode cX5_readPlain 11 = .ok (.aload_n 2, 1) := by decide +kernel
theorem dX5_readPlain_12 : decode cX5_readPlain 12 = .ok (.iconst 0, 1) := by decide +kernel
theorem dX5_readPlain_13 : decode cX5_readPlain 13 = .ok (.invokevirtual 71, 3) := by decide +kernel
theorem dX5_readPlain_16 : decode cX5_readPlain 16 = .ok (.invokevirtual 55, 3) := by decide +kernel
theorem dX5_readPlain_19 : decode cX5_readPlain 19 = .ok (.goto 93, 3) := by decide +kernel
theorem dX5_readPlain_22 : decode cX5_readPlain 22 = .ok (.iload_n 3, 1) := by decide +kernel
theorem dX5_readPlain_23 : decode cX5_readPlain 23 = .ok (.sipush 151, 3) := by decide +kernel
theorem dX5_readPlain_26 : decode cX5_readPlain 26 = .ok (.if_icmp .ne 18, 3) := by decide +kernel
theorem dX5_readPlain_29 : decode cX5_readPlain 29 = .ok (.aload_n 0, 1) := by decide +kernel
theorem dX5_readPlain_30 : decode cX5_readPlain 30 = .ok (.iload_n 3, 1) := by decide +kernel
theorem dX5_readPlain_31 : decode cX5_readPlain 31 = .ok (.iconst 0, 1) := by decide +kernel
theorem dX5_readPlain_32 : decode cX5_readPlain 32 = .ok (.aload_n 1, 1) := by decide +kernel
theorem dX5_readPlain_33 : decode cX5_readPlain 33 = .ok (.aload_n 2, 1) := by decide +kernel
theorem dX5_readPlain_34 : decode cX5_readPlain 34 = .ok (.iconst 1, 1) := by decide +kernel
theorem dX5_readPlain_35 : decode cX5_readPlain 35 = .ok (.invokevirtual 71, 3) := by decide +kernel
theorem dX5_readPlain_38 : decode cX5_readPlain 38 = .ok (.invokevirtual 55, 3) := by decide +kernel
theorem dX5_readPlain_41 : decode cX5_readPlain 41 = .ok (.goto 71, 3) := by decide +kernel
theorem dX5_readPlain_44 : decode cX5_readPlain 44 = .ok (.iload_n 3, 1) := by decide +kernel
theorem dX5_readPlain_45 : decode cX5_readPlain 45 = .ok (.sipush 152, 3) := by decide +kernel
theorem dX5_readPlain_48 : decode cX5_readPlain 48 = .ok (.if_icmp .lt 57, 3) := by decide +kernel
theorem dX5_readPlain_51 : decode cX5_readPlain 51 = .ok (.aload_n 1, 1) := by decide +kernel
theorem dX5_readPlain_52 : decode cX5_readPlain 52 = .ok (.getfield 59, 3) := by decide +kernel
theorem dX5_readPlain_55 : decode cX5_readPlain 55 = .ok (.istore 4, 2) := by decide +kernel
theorem dX5_readPlain_57 : decode cX5_readPlain 57 = .ok (.iload 4, 2) := by decide +kernel
theorem dX5_readPlain_59 : decode cX5_readPlain 59 = .ok (.bipush 60, 2) := by decide +kernel
theorem dX5_readPlain_61 : decode cX5_readPlain 61 = .ok (.if_icmp .eq 22, 3) := by decide +kernel
theorem dX5_readPlain_64 : decode cX5_readPlain 64 = .ok (.iload 4, 2) := by decide +kernel
theorem dX5_readPlain_66 : decode cX5_readPlain 66 = .ok (.bipush 61, 2) := by decide +kernel
theorem dX5_readPlain_68 : decode cX5_readPlain 68 = .ok (.if_icmp .eq 15, 3) := by decide +kernel
theorem dX5_readPlain_71 : decode cX5_readPlain 71 = .ok (.iload 4, 2) := by decide +kernel
theorem dX5_readPlain_73 : decode cX5_readPlain 73 = .ok (.bipush 62, 2) := by decide +kernel
theorem dX5_readPlain_75 : decode cX5_readPlain 75 = .ok (.if_icmp .eq 8, 3) := by decide +kernel
theorem dX5_readPlain_78 : decode cX5_readPlain 78 = .ok (.aload_n 1, 1) := by decide +kernel
theorem dX5_readPlain_79 : decode cX5_readPlain 79 = .ok (.iconst 1, 1) := by decide +kernel
theorem dX5_readPlain_80 : decode cX5_readPlain 80 = .ok (.invokevirtual 42, 3) := by decide +kernel
theorem dX5_readPlain_83 : decode cX5_readPlain 83 = .ok (.aload_n 1, 1) := by decide +kernel
theorem dX5_readPlain_84 : decode cX5_readPlain 84 = .ok (.invokevirtual 52, 3) := by decide +kernel
theorem dX5_readPlain_87 : decode cX5_readPlain 87 = .ok (.aload_n 0, 1) := by decide +kernel
theorem dX5_readPlain_88 : decode cX5_readPlain 88 = .ok (.iload_n 3, 1) := by decide +kernel
theorem dX5_readPlain_89 : decode cX5_readPlain 89 = .ok (.iload 4, 2) := by decide +kernel
theorem dX5_readPlain_91 : decode cX5_readPlain 91 = .ok (.aload_n 1, 1) := by decide +kernel
theorem dX5_readPlain_92 : decode cX5_readPlain 92 = .ok (.iconst 0, 1) := by decide +kernel
theorem dX5_readPlain_93 : decode cX5_readPlain 93 = .ok (.sipush 999, 3) := by decide +kernel
theorem dX5_readPlain_96 : decode cX5_readPlain 96 = .ok (.invokevirtual 75, 3) := by decide +kernel
theorem dX5_readPlain_99 : decode cX5_readPlain 99 = .ok (.invokevirtual 55, 3) := by decide +kernel
theorem dX5_readPlain_102 : decode cX5_readPlain 102 = .ok (.goto 10, 3) := by decide +kernel
theorem dX5_readPlain_105 : decode cX5_readPlain 105 = .ok (.aload_n 0, 1) := by decide +kernel
theorem dX5_readPlain_106 : decode cX5_readPlain 106 = .ok (.iload_n 3, 1) := by decide +kernel
theorem dX5_readPlain_107 : decode cX5_readPlain 107 = .ok (.iconst 0, 1) := by decide +kernel
theorem dX5_readPlain_108 : decode cX5_readPlain 108 = .ok (.iconst 0, 1) := by decide +kernel
theorem dX5_readPlain_109 : decode cX5_readPlain 109 = .ok (.invokevirtual 55, 3) := by decide +kernel
theorem dX5_readPlain_112 : decode cX5_readPlain 112 = .ok (.return_, 1) := by decide +kernel
theorem dX6_put_0 : decode cX6_put 0 = .ok (.aload_n 0, 1) := by decide +kernel
theorem dX6_put_1 : decode cX6_put 1 = .ok (.getfield 13, 3) := by decide +kernel
theorem dX6_put_4 : decode cX6_put 4 = .ok (.aload_n 0, 1) := by decide +kernel
theorem dX6_put_5 : decode cX6_put 5 = .ok (.getfield 9, 3) := by decide +kernel
theorem dX6_put_8 : decode cX6_put 8 = .ok (.arraylength, 1) := by decide +kernel
theorem dX6_put_9 : decode cX6_put 9 = .ok (.if_icmp .ge 24, 3) := by decide +kernel
theorem dX6_put_12 : decode cX6_put 12 = .ok (.aload_n 0, 1) := by decide +kernel
theorem dX6_put_13 : decode cX6_put 13 = .ok (.getfield 9, 3) := by decide +kernel
theorem dX6_put_16 : decode cX6_put 16 = .ok (.aload_n 0, 1) := by decide +kernel
theorem dX6_put_17 : decode cX6_put 17 = .ok (.getfield 13, 3) := by decide +kernel
theorem dX6_put_20 : decode cX6_put 20 = .ok (.iload_n 1, 1) := by decide +kernel
theorem dX6_put_21 : decode cX6_put 21 = .ok (.i2b, 1) := by decide +kernel
theorem dX6_put_22 : decode cX6_put 22 = .ok (.bastore, 1) := by decide +kernel
theorem dX6_put_23 : decode cX6_put 23 = .ok (.aload_n 0, 1) := by decide +kernel
theorem dX6_put_24 : decode cX6_put 24 = .ok (.dup, 1) := by decide +kernel
theorem dX6_put_25 : decode cX6_put 25 = .ok (.getfield 13, 3) := by decide +kernel
theorem dX6_put_28 : decode cX6_put 28 = .ok (.iconst 1, 1) := by decide +kernel
theorem dX6_put_29 : decode cX6_put 29 = .ok (.iadd, 1) := by decide +kernel
theorem dX6_put_30 : decode cX6_put 30 = .ok (.putfield 13, 3) := by decide +kernel
theorem dX6_put_33 : decode cX6_put 33 = .ok (.return_, 1) := by decide +kernel
theorem dX6_putName_0 : decode cX6_putName 0 = .ok (.bipush 48, 2) := by decide +kernel
theorem dX6_putName_2 : decode cX6_putName 2 = .ok (.istore_n 3, 1) := by decide +kernel
theorem dX6_putName_3 : decode cX6_putName 3 = .ok (.iload_n 3, 1) := by decide +kernel
theorem dX6_putName_4 : decode cX6_putName 4 = .ok (.ifCond .lt 30, 3) := by decide +kernel
theorem dX6_putName_7 : decode cX6_putName 7 = .ok (.lload_n 1, 1) := by decide +kernel
theorem dX6_putName_8 : decode cX6_putName 8 = .ok (.iload_n 3, 1) := by decide +kernel
theorem dX6_putName_9 : decode cX6_putName 9 = .ok (.lshr, 1) := by decide +kernel
theorem dX6_putName_10 : decode cX6_putName 10 = .ok (.l2i, 1) := by decide +kernel
theorem dX6_putName_11 : decode cX6_putName 11 = .ok (.sipush 255, 3) := by decide +kernel
theorem dX6_putName_14 : decode cX6_putName 14 = .ok (.iand, 1) := by decide +kernel
theorem dX6_putName_15 : decode cX6_putName 15 = .ok (.istore 4, 2) := by decide +kernel
theorem dX6_putName_17 : decode cX6_putName 17 = .ok (.iload 4, 2) := by decide +kernel
theorem dX6_putName_19 : decode cX6_putName 19 = .ok (.ifCond .eq 9, 3) := by decide +kernel
theorem dX6_putName_22 : decode cX6_putName 22 = .ok (.aload_n 0, 1) := by decide +kernel
theorem dX6_putName_23 : decode cX6_putName 23 = .ok (.iload 4, 2) := by decide +kernel
theorem dX6_putName_25 : decode cX6_putName 25 = .ok (.invokevirtual 26, 3) := by decide +kernel
theorem dX6_putName_28 : decode cX6_putName 28 = .ok (.iinc 3 (-8), 3) := by decide +kernel
theorem dX6_putName_31 : decode cX6_putName 31 = .ok (.goto (-28), 3) := by decide +kernel
theorem dX6_putName_34 : decode cX6_putName 34 = .ok (.return_, 1) := by decide +kernel
theorem dX7_nameAhead_0 : decode cX7_nameAhead 0 = .ok (.aload_n 0, 1) := by decide +kernel
theorem dX7_nameAhead_1 : decode cX7_nameAhead 1 = .ok (.getfield 53, 3) := by decide +kernel
theorem dX7_nameAhead_4 : decode cX7_nameAhead 4 = .ok (.iconst 2, 1) := by decide +kernel
theorem dX7_nameAhead_5 : decode cX7_nameAhead 5 = .ok (.if_icmp .eq 10, 3) := by decide +kernel
theorem dX7_nameAhead_8 : decode cX7_nameAhead 8 = .ok (.aload_n 0, 1) := by decide +kernel
theorem dX7_nameAhead_9 : decode cX7_nameAhead 9 = .ok (.iconst 1, 1) := by decide +kernel
theorem dX7_nameAhead_10 : decode cX7_nameAhead 10 = .ok (.invokevirtual 56, 3) := by decide +kernel
theorem dX7_nameAhead_13 : decode cX7_nameAhead 13 = .ok (.iconst (-1), 1) := by decide +kernel
theorem dX7_nameAhead_14 : decode cX7_nameAhead 14 = .ok (.ireturn, 1) := by decide +kernel
theorem dX7_nameAhead_15 : decode cX7_nameAhead 15 = .ok (.aload_n 1, 1) := by decide +kernel
theorem dX7_nameAhead_16 : decode cX7_nameAhead 16 = .ok (.aload_n 0, 1) := by decide +kernel
theorem dX7_nameAhead_17 : decode cX7_nameAhead 17 = .ok (.getfield 76, 3) := by decide +kernel
theorem dX7_nameAhead_20 : decode cX7_nameAhead 20 = .ok (.iload_n 2, 1) := by decide +kernel
theorem dX7_nameAhead_21 : decode cX7_nameAhead 21 = .ok (.invokevirtual 80, 3) := by decide +kernel
theorem dX7_nameAhead_24 : decode cX7_nameAhead 24 = .ok (.istore_n 3, 1) := by decide +kernel
theorem dX7_nameAhead_25 : decode cX7_nameAhead 25 = .ok (.iload_n 3, 1) := by decide +kernel
theorem dX7_nameAhead_26 : decode cX7_nameAhead 26 = .ok (.iconst (-1), 1) := by decide +kernel
theorem dX7_nameAhead_27 : decode cX7_nameAhead 27 = .ok (.if_icmp .ne 8, 3) := by decide +kernel
theorem dX7_nameAhead_30 : decode cX7_nameAhead 30 = .ok (.aload_n 0, 1) := by decide +kernel
theorem dX7_nameAhead_31 : decode cX7_nameAhead 31 = .ok (.iconst 3, 1) := by decide +kernel
theorem dX7_nameAhead_32 : decode cX7_nameAhead 32 = .ok (.invokevirtual 56, 3) := by decide +kernel
theorem dX7_nameAhead_35 : decode cX7_nameAhead 35 = .ok (.aload_n 0, 1) := by decide +kernel
theorem dX7_nameAhead_36 : decode cX7_nameAhead 36 = .ok (.getfield 44, 3) := by decide +kernel
theorem dX7_nameAhead_39 : decode cX7_nameAhead 39 = .ok (.ifCond .ne 7, 3) := by decide +kernel
theorem dX7_nameAhead_42 : decode cX7_nameAhead 42 = .ok (.iload_n 3, 1) := by decide +kernel
theorem dX7_nameAhead_43 : decode cX7_nameAhead 43 = .ok (.goto 4, 3) := by decide +kernel
theorem dX7_nameAhead_46 : decode cX7_nameAhead 46 = .ok (.iconst (-1), 1) := by decide +kernel
theorem dX7_nameAhead_47 : decode cX7_nameAhead 47 = .ok (.ireturn, 1) := by decide +kernel
theorem dX7_takeName_0 : decode cX7_takeName 0 = .ok (.aload_n 0, 1) := by decide +kernel
theorem dX7_takeName_1 : decode cX7_takeName 1 = .ok (.aload_n 1, 1) := by decide +kernel
theorem dX7_takeName_2 : decode cX7_takeName 2 = .ok (.iload_n 2, 1) := by decide +kernel
theorem dX7_takeName_3 : decode cX7_takeName 3 = .ok (.invokevirtual 86, 3) := by decide +kernel
theorem dX7_takeName_6 : decode cX7_takeName 6 = .ok (.istore_n 3, 1) := by decide +kernel
theorem dX7_takeName_7 : decode cX7_takeName 7 = .ok (.aload_n 0, 1) := by decide +kernel
theorem dX7_takeName_8 : decode cX7_takeName 8 = .ok (.invokevirtual 50, 3) := by decide +kernel
theorem dX7_takeName_11 : decode cX7_takeName 11 = .ok (.iload_n 3, 1) := by decide +kernel
theorem dX7_takeName_12 : decode cX7_takeName 12 = .ok (.ireturn, 1) := by decide +kernel
theorem rl_4 : RI 4 4 4 := by unfold RI; decide +kernel
theorem rl_9 : RI 9 9 9 := by unfold RI; decide +kernel
theorem rl_26 : RI 26 26 26 := by unfold RI; decide +kernel
theorem rl_131 : RI 131 131 131 := by unfold RI; decide +kernel
theorem rl_135 : RI 135 135 135 := by unfold RI; decide +kernel
theorem rl_136 : RI 136 136 136 := by unfold RI; decide +kernel
theorem rl_141 : RI 141 141 141 := by unfold RI; decide +kernel
theorem rl_143 : RI 143 143 143 := by unfold RI; decide +kernel
theorem rl_144 : RI 144 144 144 := by unfold RI; decide +kernel
theorem rl_145 : RI 145 145 145 := by unfold RI; decide +kernel
theorem rl_146 : RI 146 146 146 := by unfold RI; decide +kernel
theorem rl_150 : RI 150 150 150 := by unfold RI; decide +kernel
theorem rl_151 : RI 151 151 151 := by unfold RI; decide +kernel
theorem rl_152 : RI 152 152 152 := by unfold RI; decide +kernel
theorem rl_155 : RI 155 155 155 := by unfold RI; decide +kernel
theorem rl_200 : RI 200 200 200 := by unfold RI; decide +kernel
theorem rl_999 : RI 999 999 999 := by unfold RI; decide +kernel
