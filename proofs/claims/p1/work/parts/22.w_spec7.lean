theorem tw_392 : Cond.methodLink RL (22 : Nat) yX9_feed ∈ gT := gT_t (List.mem_of_getElem? (i := 392) (by decide +kernel)) (by decide +kernel)
theorem tw_393 : Cond.instanceMethod yX9_feed ∈ gT := gT_t (List.mem_of_getElem? (i := 393) (by decide +kernel)) (by decide +kernel)
theorem tw_394 : Cond.selects RX9 yX9_feed yX9_feed ∈ gT := gT_t (List.mem_of_getElem? (i := 394) (by decide +kernel)) (by decide +kernel)
theorem tw_395 : Cond.code yX9_feed cX9_feed 6 (some .int) ∈ gT := gT_t (List.mem_of_getElem? (i := 395) (by decide +kernel)) (by decide +kernel)
theorem tw_404 : Cond.methodLink RL (27 : Nat) yX9_end ∈ gT := gT_t (List.mem_of_getElem? (i := 404) (by decide +kernel)) (by decide +kernel)
theorem tw_405 : Cond.instanceMethod yX9_end ∈ gT := gT_t (List.mem_of_getElem? (i := 405) (by decide +kernel)) (by decide +kernel)
theorem tw_406 : Cond.selects RX9 yX9_end yX9_end ∈ gT := gT_t (List.mem_of_getElem? (i := 406) (by decide +kernel)) (by decide +kernel)
theorem tw_407 : Cond.code yX9_end cX9_end 2 (some .boolean) ∈ gT := gT_t (List.mem_of_getElem? (i := 407) (by decide +kernel)) (by decide +kernel)
theorem tw_408 : Cond.methodLink RL (32 : Nat) yX9_post ∈ gT := gT_t (List.mem_of_getElem? (i := 408) (by decide +kernel)) (by decide +kernel)
theorem tw_409 : Cond.instanceMethod yX9_post ∈ gT := gT_t (List.mem_of_getElem? (i := 409) (by decide +kernel)) (by decide +kernel)
theorem tw_410 : Cond.selects RX9 yX9_post yX9_post ∈ gT := gT_t (List.mem_of_getElem? (i := 410) (by decide +kernel)) (by decide +kernel)
theorem tw_411 : Cond.code yX9_post cX9_post 3 (some .int) ∈ gT := gT_t (List.mem_of_getElem? (i := 411) (by decide +kernel)) (by decide +kernel)
theorem tw_532 : Cond.methodLink RL (37 : Nat) yX9_fault ∈ gT := gT_t (List.mem_of_getElem? (i := 532) (by decide +kernel)) (by decide +kernel)
theorem tw_533 : Cond.instanceMethod yX9_fault ∈ gT := gT_t (List.mem_of_getElem? (i := 533) (by decide +kernel)) (by decide +kernel)
theorem tw_534 : Cond.selects RX9 yX9_fault yX9_fault ∈ gT := gT_t (List.mem_of_getElem? (i := 534) (by decide +kernel)) (by decide +kernel)
theorem tw_535 : Cond.code yX9_fault cX9_fault 1 (some .int) ∈ gT := gT_t (List.mem_of_getElem? (i := 535) (by decide +kernel)) (by decide +kernel)
theorem tw_536 : Cond.methodLink RL (41 : Nat) yX9_much ∈ gT := gT_t (List.mem_of_getElem? (i := 536) (by decide +kernel)) (by decide +kernel)
theorem tw_537 : Cond.instanceMethod yX9_much ∈ gT := gT_t (List.mem_of_getElem? (i := 537) (by decide +kernel)) (by decide +kernel)
theorem tw_538 : Cond.selects RX9 yX9_much yX9_much ∈ gT := gT_t (List.mem_of_getElem? (i := 538) (by decide +kernel)) (by decide +kernel)
theorem tw_539 : Cond.code yX9_much cX9_much 3 (some .int) ∈ gT := gT_t (List.mem_of_getElem? (i := 539) (by decide +kernel)) (by decide +kernel)
theorem tw_545 : Cond.methodLink RL (57 : Nat) yX9_need ∈ gT := gT_t (List.mem_of_getElem? (i := 545) (by decide +kernel)) (by decide +kernel)
theorem tw_546 : Cond.instanceMethod yX9_need ∈ gT := gT_t (List.mem_of_getElem? (i := 546) (by decide +kernel)) (by decide +kernel)
theorem tw_547 : Cond.selects RX9 yX9_need yX9_need ∈ gT := gT_t (List.mem_of_getElem? (i := 547) (by decide +kernel)) (by decide +kernel)
theorem tw_548 : Cond.code yX9_need cX9_need 2 (some .int) ∈ gT := gT_t (List.mem_of_getElem? (i := 548) (by decide +kernel)) (by decide +kernel)
theorem tw_549 : Cond.methodLink RL (62 : Nat) yX9_quarrels ∈ gT := gT_t (List.mem_of_getElem? (i := 549) (by decide +kernel)) (by decide +kernel)
theorem tw_550 : Cond.instanceMethod yX9_quarrels ∈ gT := gT_t (List.mem_of_getElem? (i := 550) (by decide +kernel)) (by decide +kernel)
theorem tw_551 : Cond.selects RX9 yX9_quarrels yX9_quarrels ∈ gT := gT_t (List.mem_of_getElem? (i := 551) (by decide +kernel)) (by decide +kernel)
theorem tw_552 : Cond.code yX9_quarrels cX9_quarrels 2 (some .int) ∈ gT := gT_t (List.mem_of_getElem? (i := 552) (by decide +kernel)) (by decide +kernel)
theorem tw_553 : Cond.methodLink RL (66 : Nat) yX9_now ∈ gT := gT_t (List.mem_of_getElem? (i := 553) (by decide +kernel)) (by decide +kernel)
theorem tw_554 : Cond.instanceMethod yX9_now ∈ gT := gT_t (List.mem_of_getElem? (i := 554) (by decide +kernel)) (by decide +kernel)
theorem tw_555 : Cond.selects RX9 yX9_now yX9_now ∈ gT := gT_t (List.mem_of_getElem? (i := 555) (by decide +kernel)) (by decide +kernel)
theorem tw_556 : Cond.code yX9_now cX9_now 2 (some .int) ∈ gT := gT_t (List.mem_of_getElem? (i := 556) (by decide +kernel)) (by decide +kernel)
theorem tw_602 : Cond.methodLink RL (70 : Nat) yX9_sit ∈ gT := gT_t (List.mem_of_getElem? (i := 602) (by decide +kernel)) (by decide +kernel)
theorem tw_603 : Cond.instanceMethod yX9_sit ∈ gT := gT_t (List.mem_of_getElem? (i := 603) (by decide +kernel)) (by decide +kernel)
theorem tw_604 : Cond.selects RX9 yX9_sit yX9_sit ∈ gT := gT_t (List.mem_of_getElem? (i := 604) (by decide +kernel)) (by decide +kernel)
theorem tw_605 : Cond.code yX9_sit cX9_sit 3 (some .int) ∈ gT := gT_t (List.mem_of_getElem? (i := 605) (by decide +kernel)) (by decide +kernel)
theorem tw_624 : Cond.methodLink RL (74 : Nat) yX9_stand ∈ gT := gT_t (List.mem_of_getElem? (i := 624) (by decide +kernel)) (by decide +kernel)
theorem tw_625 : Cond.instanceMethod yX9_stand ∈ gT := gT_t (List.mem_of_getElem? (i := 625) (by decide +kernel)) (by decide +kernel)
theorem tw_626 : Cond.selects RX9 yX9_stand yX9_stand ∈ gT := gT_t (List.mem_of_getElem? (i := 626) (by decide +kernel)) (by decide +kernel)
theorem tw_627 : Cond.code yX9_stand cX9_stand 2 (some .int) ∈ gT := gT_t (List.mem_of_getElem? (i := 627) (by decide +kernel)) (by decide +kernel)
theorem tw_632 : Cond.methodLink RL (78 : Nat) yX9_wish ∈ gT := gT_t (List.mem_of_getElem? (i := 632) (by decide +kernel)) (by decide +kernel)
theorem tw_633 : Cond.instanceMethod yX9_wish ∈ gT := gT_t (List.mem_of_getElem? (i := 633) (by decide +kernel)) (by decide +kernel)
theorem tw_634 : Cond.selects RX9 yX9_wish yX9_wish ∈ gT := gT_t (List.mem_of_getElem? (i := 634) (by decide +kernel)) (by decide +kernel)
theorem tw_635 : Cond.code yX9_wish cX9_wish 3 (some .int) ∈ gT := gT_t (List.mem_of_getElem? (i := 635) (by decide +kernel)) (by decide +kernel)
theorem tw_640 : Cond.methodLink RL (82 : Nat) yX9_guess ∈ gT := gT_t (List.mem_of_getElem? (i := 640) (by decide +kernel)) (by decide +kernel)
theorem tw_641 : Cond.instanceMethod yX9_guess ∈ gT := gT_t (List.mem_of_getElem? (i := 641) (by decide +kernel)) (by decide +kernel)
theorem tw_642 : Cond.selects RX9 yX9_guess yX9_guess ∈ gT := gT_t (List.mem_of_getElem? (i := 642) (by decide +kernel)) (by decide +kernel)
theorem tw_643 : Cond.code yX9_guess cX9_guess 4 (some .int) ∈ gT := gT_t (List.mem_of_getElem? (i := 643) (by decide +kernel)) (by decide +kernel)
theorem tw_657 : Cond.methodLink RL (86 : Nat) yX9_open ∈ gT := gT_t (List.mem_of_getElem? (i := 657) (by decide +kernel)) (by decide +kernel)
theorem tw_658 : Cond.instanceMethod yX9_open ∈ gT := gT_t (List.mem_of_getElem? (i := 658) (by decide +kernel)) (by decide +kernel)
theorem tw_659 : Cond.selects RX9 yX9_open yX9_open ∈ gT := gT_t (List.mem_of_getElem? (i := 659) (by decide +kernel)) (by decide +kernel)
theorem tw_660 : Cond.code yX9_open cX9_open 2 (some .int) ∈ gT := gT_t (List.mem_of_getElem? (i := 660) (by decide +kernel)) (by decide +kernel)
theorem tw_665 : Cond.methodLink RL (90 : Nat) yX9_carry ∈ gT := gT_t (List.mem_of_getElem? (i := 665) (by decide +kernel)) (by decide +kernel)
theorem tw_666 : Cond.instanceMethod yX9_carry ∈ gT := gT_t (List.mem_of_getElem? (i := 666) (by decide +kernel)) (by decide +kernel)
theorem tw_667 : Cond.selects RX9 yX9_carry yX9_carry ∈ gT := gT_t (List.mem_of_getElem? (i := 667) (by decide +kernel)) (by decide +kernel)
theorem tw_668 : Cond.code yX9_carry cX9_carry 3 (some .int) ∈ gT := gT_t (List.mem_of_getElem? (i := 668) (by decide +kernel)) (by decide +kernel)
theorem tw_673 : Cond.methodLink RL (94 : Nat) yX9_days ∈ gT := gT_t (List.mem_of_getElem? (i := 673) (by decide +kernel)) (by decide +kernel)
theorem tw_674 : Cond.instanceMethod yX9_days ∈ gT := gT_t (List.mem_of_getElem? (i := 674) (by decide +kernel)) (by decide +kernel)
theorem tw_675 : Cond.selects RX9 yX9_days yX9_days ∈ gT := gT_t (List.mem_of_getElem? (i := 675) (by decide +kernel)) (by decide +kernel)
theorem tw_676 : Cond.code yX9_days cX9_days 2 (some .int) ∈ gT := gT_t (List.mem_of_getElem? (i := 676) (by decide +kernel)) (by decide +kernel)
theorem tw_713 : Cond.methodLink RL (98 : Nat) yX9_undo ∈ gT := gT_t (List.mem_of_getElem? (i := 713) (by decide +kernel)) (by decide +kernel)
theorem tw_714 : Cond.instanceMethod yX9_undo ∈ gT := gT_t (List.mem_of_getElem? (i := 714) (by decide +kernel)) (by decide +kernel)
theorem tw_715 : Cond.selects RX9 yX9_undo yX9_undo ∈ gT := gT_t (List.mem_of_getElem? (i := 715) (by decide +kernel)) (by decide +kernel)
theorem tw_716 : Cond.code yX9_undo cX9_undo 1 (some .int) ∈ gT := gT_t (List.mem_of_getElem? (i := 716) (by decide +kernel)) (by decide +kernel)
theorem tw_721 : Cond.methodLink RL (102 : Nat) yX9_when ∈ gT := gT_t (List.mem_of_getElem? (i := 721) (by decide +kernel)) (by decide +kernel)
theorem tw_722 : Cond.instanceMethod yX9_when ∈ gT := gT_t (List.mem_of_getElem? (i := 722) (by decide +kernel)) (by decide +kernel)
theorem tw_723 : Cond.selects RX9 yX9_when yX9_when ∈ gT := gT_t (List.mem_of_getElem? (i := 723) (by decide +kernel)) (by decide +kernel)
theorem tw_724 : Cond.code yX9_when cX9_when 5 (some .int) ∈ gT := gT_t (List.mem_of_getElem? (i := 724) (by decide +kernel)) (by decide +kernel)
theorem tw_729 : Cond.methodLink RL (106 : Nat) yX9_sitters ∈ gT := gT_t (List.mem_of_getElem? (i := 729) (by decide +kernel)) (by decide +kernel)
theorem tw_730 : Cond.instanceMethod yX9_sitters ∈ gT := gT_t (List.mem_of_getElem? (i := 730) (by decide +kernel)) (by decide +kernel)
theorem tw_731 : Cond.selects RX9 yX9_sitters yX9_sitters ∈ gT := gT_t (List.mem_of_getElem? (i := 731) (by decide +kernel)) (by decide +kernel)
theorem tw_732 : Cond.code yX9_sitters cX9_sitters 5 (some .int) ∈ gT := gT_t (List.mem_of_getElem? (i := 732) (by decide +kernel)) (by decide +kernel)
theorem tw_748 : Cond.methodLink RL (111 : Nat) yX9_sitting ∈ gT := gT_t (List.mem_of_getElem? (i := 748) (by decide +kernel)) (by decide +kernel)
theorem tw_749 : Cond.instanceMethod yX9_sitting ∈ gT := gT_t (List.mem_of_getElem? (i := 749) (by decide +kernel)) (by decide +kernel)
theorem tw_750 : Cond.selects RX9 yX9_sitting yX9_sitting ∈ gT := gT_t (List.mem_of_getElem? (i := 750) (by decide +kernel)) (by decide +kernel)
theorem tw_751 : Cond.code yX9_sitting cX9_sitting 1 (some .int) ∈ gT := gT_t (List.mem_of_getElem? (i := 751) (by decide +kernel)) (by decide +kernel)
theorem tw_752 : Cond.methodLink RL (115 : Nat) yX9_sat ∈ gT := gT_t (List.mem_of_getElem? (i := 752) (by decide +kernel)) (by decide +kernel)
theorem tw_753 : Cond.instanceMethod yX9_sat ∈ gT := gT_t (List.mem_of_getElem? (i := 753) (by decide +kernel)) (by decide +kernel)
theorem tw_754 : Cond.selects RX9 yX9_sat yX9_sat ∈ gT := gT_t (List.mem_of_getElem? (i := 754) (by decide +kernel)) (by decide +kernel)
theorem tw_755 : Cond.code yX9_sat cX9_sat 6 (some .int) ∈ gT := gT_t (List.mem_of_getElem? (i := 755) (by decide +kernel)) (by decide +kernel)
theorem tw_771 : Cond.methodLink RL (119 : Nat) yX9_surely ∈ gT := gT_t (List.mem_of_getElem? (i := 771) (by decide +kernel)) (by decide +kernel)
theorem tw_772 : Cond.instanceMethod yX9_surely ∈ gT := gT_t (List.mem_of_getElem? (i := 772) (by decide +kernel)) (by decide +kernel)
theorem tw_773 : Cond.selects RX9 yX9_surely yX9_surely ∈ gT := gT_t (List.mem_of_getElem? (i := 773) (by decide +kernel)) (by decide +kernel)
theorem tw_774 : Cond.code yX9_surely cX9_surely 1 (some .int) ∈ gT := gT_t (List.mem_of_getElem? (i := 774) (by decide +kernel)) (by decide +kernel)
theorem tw_775 : Cond.methodLink RL (123 : Nat) yX9_ask ∈ gT := gT_t (List.mem_of_getElem? (i := 775) (by decide +kernel)) (by decide +kernel)
theorem tw_776 : Cond.instanceMethod yX9_ask ∈ gT := gT_t (List.mem_of_getElem? (i := 776) (by decide +kernel)) (by decide +kernel)
theorem tw_777 : Cond.selects RX9 yX9_ask yX9_ask ∈ gT := gT_t (List.mem_of_getElem? (i := 777) (by decide +kernel)) (by decide +kernel)
theorem tw_778 : Cond.code yX9_ask cX9_ask 1 (some .int) ∈ gT := gT_t (List.mem_of_getElem? (i := 778) (by decide +kernel)) (by decide +kernel)
theorem tw_779 : Cond.methodLink RL (127 : Nat) yX9_let ∈ gT := gT_t (List.mem_of_getElem? (i := 779) (by decide +kernel)) (by decide +kernel)
theorem tw_780 : Cond.instanceMethod yX9_let ∈ gT := gT_t (List.mem_of_getElem? (i := 780) (by decide +kernel)) (by decide +kernel)
theorem tw_781 : Cond.selects RX9 yX9_let yX9_let ∈ gT := gT_t (List.mem_of_getElem? (i := 781) (by decide +kernel)) (by decide +kernel)
theorem tw_782 : Cond.code yX9_let cX9_let 3 (some .int) ∈ gT := gT_t (List.mem_of_getElem? (i := 782) (by decide +kernel)) (by decide +kernel)
theorem tw_785 : Cond.methodLink RL (131 : Nat) yX9_rooms ∈ gT := gT_t (List.mem_of_getElem? (i := 785) (by decide +kernel)) (by decide +kernel)
theorem tw_786 : Cond.instanceMethod yX9_rooms ∈ gT := gT_t (List.mem_of_getElem? (i := 786) (by decide +kernel)) (by decide +kernel)
theorem tw_787 : Cond.selects RX9 yX9_rooms yX9_rooms ∈ gT := gT_t (List.mem_of_getElem? (i := 787) (by decide +kernel)) (by decide +kernel)
theorem tw_788 : Cond.code yX9_rooms cX9_rooms 1 (some .int) ∈ gT := gT_t (List.mem_of_getElem? (i := 788) (by decide +kernel)) (by decide +kernel)
theorem tw_803 : Cond.methodLink RL (135 : Nat) yX9_roomOf ∈ gT := gT_t (List.mem_of_getElem? (i := 803) (by decide +kernel)) (by decide +kernel)
theorem tw_804 : Cond.instanceMethod yX9_roomOf ∈ gT := gT_t (List.mem_of_getElem? (i := 804) (by decide +kernel)) (by decide +kernel)
theorem tw_805 : Cond.selects RX9 yX9_roomOf yX9_roomOf ∈ gT := gT_t (List.mem_of_getElem? (i := 805) (by decide +kernel)) (by decide +kernel)
theorem tw_806 : Cond.code yX9_roomOf cX9_roomOf 2 (some .int) ∈ gT := gT_t (List.mem_of_getElem? (i := 806) (by decide +kernel)) (by decide +kernel)
theorem tw_807 : Cond.methodLink RL (139 : Nat) yX9_rest ∈ gT := gT_t (List.mem_of_getElem? (i := 807) (by decide +kernel)) (by decide +kernel)
theorem tw_808 : Cond.instanceMethod yX9_rest ∈ gT := gT_t (List.mem_of_getElem? (i := 808) (by decide +kernel)) (by decide +kernel)
theorem tw_809 : Cond.selects RX9 yX9_rest yX9_rest ∈ gT := gT_t (List.mem_of_getElem? (i := 809) (by decide +kernel)) (by decide +kernel)
theorem tw_810 : Cond.code yX9_rest cX9_rest 2 (some .int) ∈ gT := gT_t (List.mem_of_getElem? (i := 810) (by decide +kernel)) (by decide +kernel)
theorem tw_820 : Cond.methodLink RL (143 : Nat) yX9_rested ∈ gT := gT_t (List.mem_of_getElem? (i := 820) (by decide +kernel)) (by decide +kernel)
theorem tw_821 : Cond.instanceMethod yX9_rested ∈ gT := gT_t (List.mem_of_getElem? (i := 821) (by decide +kernel)) (by decide +kernel)
theorem tw_822 : Cond.selects RX9 yX9_rested yX9_rested ∈ gT := gT_t (List.mem_of_getElem? (i := 822) (by decide +kernel)) (by decide +kernel)
theorem tw_823 : Cond.code yX9_rested cX9_rested 2 (some .int) ∈ gT := gT_t (List.mem_of_getElem? (i := 823) (by decide +kernel)) (by decide +kernel)
theorem tw_824 : Cond.methodLink RL (147 : Nat) yX9_greatest ∈ gT := gT_t (List.mem_of_getElem? (i := 824) (by decide +kernel)) (by decide +kernel)
theorem tw_825 : Cond.instanceMethod yX9_greatest ∈ gT := gT_t (List.mem_of_getElem? (i := 825) (by decide +kernel)) (by decide +kernel)
theorem tw_826 : Cond.selects RX9 yX9_greatest yX9_greatest ∈ gT := gT_t (List.mem_of_getElem? (i := 826) (by decide +kernel)) (by decide +kernel)
theorem tw_827 : Cond.code yX9_greatest cX9_greatest 3 (some .int) ∈ gT := gT_t (List.mem_of_getElem? (i := 827) (by decide +kernel)) (by decide +kernel)
theorem tw_829 : Cond.methodLink RL (151 : Nat) yX9_tag ∈ gT := gT_t (List.mem_of_getElem? (i := 829) (by decide +kernel)) (by decide +kernel)
theorem tw_830 : Cond.instanceMethod yX9_tag ∈ gT := gT_t (List.mem_of_getElem? (i := 830) (by decide +kernel)) (by decide +kernel)
theorem tw_831 : Cond.selects RX9 yX9_tag yX9_tag ∈ gT := gT_t (List.mem_of_getElem? (i := 831) (by decide +kernel)) (by decide +kernel)
theorem tw_832 : Cond.code yX9_tag cX9_tag 3 (some .int) ∈ gT := gT_t (List.mem_of_getElem? (i := 832) (by decide +kernel)) (by decide +kernel)
theorem tw_854 : Cond.methodLink RL (155 : Nat) yX9_byteAt ∈ gT := gT_t (List.mem_of_getElem? (i := 854) (by decide +kernel)) (by decide +kernel)
theorem tw_855 : Cond.instanceMethod yX9_byteAt ∈ gT := gT_t (List.mem_of_getElem? (i := 855) (by decide +kernel)) (by decide +kernel)
theorem tw_856 : Cond.selects RX9 yX9_byteAt yX9_byteAt ∈ gT := gT_t (List.mem_of_getElem? (i := 856) (by decide +kernel)) (by decide +kernel)
theorem tw_857 : Cond.code yX9_byteAt cX9_byteAt 2 (some .int) ∈ gT := gT_t (List.mem_of_getElem? (i := 857) (by decide +kernel)) (by decide +kernel)
theorem tw_858 : Cond.methodLink RL (159 : Nat) yX9_drawn ∈ gT := gT_t (List.mem_of_getElem? (i := 858) (by decide +kernel)) (by decide +kernel)
theorem tw_859 : Cond.instanceMethod yX9_drawn ∈ gT := gT_t (List.mem_of_getElem? (i := 859) (by decide +kernel)) (by decide +kernel)
theorem tw_860 : Cond.selects RX9 yX9_drawn yX9_drawn ∈ gT := gT_t (List.mem_of_getElem? (i := 860) (by decide +kernel)) (by decide +kernel)
theorem tw_861 : Cond.code yX9_drawn cX9_drawn 3 (some .int) ∈ gT := gT_t (List.mem_of_getElem? (i := 861) (by decide +kernel)) (by decide +kernel)
theorem tw_878 : Cond.methodLink RL (163 : Nat) yX9_odds ∈ gT := gT_t (List.mem_of_getElem? (i := 878) (by decide +kernel)) (by decide +kernel)
theorem tw_879 : Cond.instanceMethod yX9_odds ∈ gT := gT_t (List.mem_of_getElem? (i := 879) (by decide +kernel)) (by decide +kernel)
theorem tw_880 : Cond.selects RX9 yX9_odds yX9_odds ∈ gT := gT_t (List.mem_of_getElem? (i := 880) (by decide +kernel)) (by decide +kernel)
theorem tw_881 : Cond.code yX9_odds cX9_odds 7 (some .int) ∈ gT := gT_t (List.mem_of_getElem? (i := 881) (by decide +kernel)) (by decide +kernel)
theorem tw_882 : Cond.methodLink RL (168 : Nat) yX9_book ∈ gT := gT_t (List.mem_of_getElem? (i := 882) (by decide +kernel)) (by decide +kernel)
theorem tw_883 : Cond.instanceMethod yX9_book ∈ gT := gT_t (List.mem_of_getElem? (i := 883) (by decide +kernel)) (by decide +kernel)
theorem tw_884 : Cond.selects RX9 yX9_book yX9_book ∈ gT := gT_t (List.mem_of_getElem? (i := 884) (by decide +kernel)) (by decide +kernel)
theorem tw_885 : Cond.code yX9_book cX9_book 3 (some .int) ∈ gT := gT_t (List.mem_of_getElem? (i := 885) (by decide +kernel)) (by decide +kernel)
theorem tw_937 : Cond.methodLink RL (172 : Nat) yX9_told ∈ gT := gT_t (List.mem_of_getElem? (i := 937) (by decide +kernel)) (by decide +kernel)
theorem tw_938 : Cond.instanceMethod yX9_told ∈ gT := gT_t (List.mem_of_getElem? (i := 938) (by decide +kernel)) (by decide +kernel)
theorem tw_939 : Cond.selects RX9 yX9_told yX9_told ∈ gT := gT_t (List.mem_of_getElem? (i := 939) (by decide +kernel)) (by decide +kernel)
theorem tw_940 : Cond.code yX9_told cX9_told 2 (some .int) ∈ gT := gT_t (List.mem_of_getElem? (i := 940) (by decide +kernel)) (by decide +kernel)
theorem tw_941 : Cond.methodLink RL (176 : Nat) yX9_sentence ∈ gT := gT_t (List.mem_of_getElem? (i := 941) (by decide +kernel)) (by decide +kernel)
theorem tw_942 : Cond.instanceMethod yX9_sentence ∈ gT := gT_t (List.mem_of_getElem? (i := 942) (by decide +kernel)) (by decide +kernel)
theorem tw_943 : Cond.selects RX9 yX9_sentence yX9_sentence ∈ gT := gT_t (List.mem_of_getElem? (i := 943) (by decide +kernel)) (by decide +kernel)
theorem tw_944 : Cond.code yX9_sentence cX9_sentence 2 (some .int) ∈ gT := gT_t (List.mem_of_getElem? (i := 944) (by decide +kernel)) (by decide +kernel)
theorem tw_999 : Cond.methodLink RL (180 : Nat) yX9_said ∈ gT := gT_t (List.mem_of_getElem? (i := 999) (by decide +kernel)) (by decide +kernel)
theorem tw_1000 : Cond.instanceMethod yX9_said ∈ gT := gT_t (List.mem_of_getElem? (i := 1000) (by decide +kernel)) (by decide +kernel)
theorem tw_1001 : Cond.selects RX9 yX9_said yX9_said ∈ gT := gT_t (List.mem_of_getElem? (i := 1001) (by decide +kernel)) (by decide +kernel)
theorem tw_1002 : Cond.code yX9_said cX9_said 5 (some .int) ∈ gT := gT_t (List.mem_of_getElem? (i := 1002) (by decide +kernel)) (by decide +kernel)
theorem tw_1018 : Cond.methodLink RL (184 : Nat) yX9_image ∈ gT := gT_t (List.mem_of_getElem? (i := 1018) (by decide +kernel)) (by decide +kernel)
theorem tw_1019 : Cond.instanceMethod yX9_image ∈ gT := gT_t (List.mem_of_getElem? (i := 1019) (by decide +kernel)) (by decide +kernel)
theorem tw_1020 : Cond.selects RX9 yX9_image yX9_image ∈ gT := gT_t (List.mem_of_getElem? (i := 1020) (by decide +kernel)) (by decide +kernel)
theorem tw_1021 : Cond.code yX9_image cX9_image 2 (some .boolean) ∈ gT := gT_t (List.mem_of_getElem? (i := 1021) (by decide +kernel)) (by decide +kernel)
theorem tw_1027 : Cond.methodLink RL (188 : Nat) yX9_restore ∈ gT := gT_t (List.mem_of_getElem? (i := 1027) (by decide +kernel)) (by decide +kernel)
theorem tw_1028 : Cond.instanceMethod yX9_restore ∈ gT := gT_t (List.mem_of_getElem? (i := 1028) (by decide +kernel)) (by decide +kernel)
theorem tw_1029 : Cond.selects RX9 yX9_restore yX9_restore ∈ gT := gT_t (List.mem_of_getElem? (i := 1029) (by decide +kernel)) (by decide +kernel)
theorem tw_1030 : Cond.code yX9_restore cX9_restore 2 (some .boolean) ∈ gT := gT_t (List.mem_of_getElem? (i := 1030) (by decide +kernel)) (by decide +kernel)
theorem tw_1031 : Cond.methodLink RL (192 : Nat) yX9_count ∈ gT := gT_t (List.mem_of_getElem? (i := 1031) (by decide +kernel)) (by decide +kernel)
theorem tw_1032 : Cond.instanceMethod yX9_count ∈ gT := gT_t (List.mem_of_getElem? (i := 1032) (by decide +kernel)) (by decide +kernel)
theorem tw_1033 : Cond.selects RX9 yX9_count yX9_count ∈ gT := gT_t (List.mem_of_getElem? (i := 1033) (by decide +kernel)) (by decide +kernel)
theorem tw_1034 : Cond.code yX9_count cX9_count 2 (some .int) ∈ gT := gT_t (List.mem_of_getElem? (i := 1034) (by decide +kernel)) (by decide +kernel)
theorem tw_1123 : Cond.methodLink RL (26 : Nat) yX10_feed ∈ gT := gT_t (List.mem_of_getElem? (i := 1123) (by decide +kernel)) (by decide +kernel)
theorem tw_1124 : Cond.instanceMethod yX10_feed ∈ gT := gT_t (List.mem_of_getElem? (i := 1124) (by decide +kernel)) (by decide +kernel)
theorem tw_1125 : Cond.selects RX10 yX10_feed yX10_feed ∈ gT := gT_t (List.mem_of_getElem? (i := 1125) (by decide +kernel)) (by decide +kernel)
theorem tw_1126 : Cond.code yX10_feed cX10_feed 6 (some .int) ∈ gT := gT_t (List.mem_of_getElem? (i := 1126) (by decide +kernel)) (by decide +kernel)
theorem tw_1132 : Cond.methodLink RL (31 : Nat) yX10_end ∈ gT := gT_t (List.mem_of_getElem? (i := 1132) (by decide +kernel)) (by decide +kernel)
theorem tw_1133 : Cond.instanceMethod yX10_end ∈ gT := gT_t (List.mem_of_getElem? (i := 1133) (by decide +kernel)) (by decide +kernel)
theorem tw_1134 : Cond.selects RX10 yX10_end yX10_end ∈ gT := gT_t (List.mem_of_getElem? (i := 1134) (by decide +kernel)) (by decide +kernel)
theorem tw_1135 : Cond.code yX10_end cX10_end 2 (some .boolean) ∈ gT := gT_t (List.mem_of_getElem? (i := 1135) (by decide +kernel)) (by decide +kernel)
theorem tw_1290 : Cond.methodLink RL (36 : Nat) yX10_post ∈ gT := gT_t (List.mem_of_getElem? (i := 1290) (by decide +kernel)) (by decide +kernel)
theorem tw_1291 : Cond.instanceMethod yX10_post ∈ gT := gT_t (List.mem_of_getElem? (i := 1291) (by decide +kernel)) (by decide +kernel)
theorem tw_1292 : Cond.selects RX10 yX10_post yX10_post ∈ gT := gT_t (List.mem_of_getElem? (i := 1292) (by decide +kernel)) (by decide +kernel)
theorem tw_1293 : Cond.code yX10_post cX10_post 3 (some .int) ∈ gT := gT_t (List.mem_of_getElem? (i := 1293) (by decide +kernel)) (by decide +kernel)
theorem tw_1425 : Cond.methodLink RL (40 : Nat) yX10_fault ∈ gT := gT_t (List.mem_of_getElem? (i := 1425) (by decide +kernel)) (by decide +kernel)
theorem tw_1426 : Cond.instanceMethod yX10_fault ∈ gT := gT_t (List.mem_of_getElem? (i := 1426) (by decide +kernel)) (by decide +kernel)
theorem tw_1427 : Cond.selects RX10 yX10_fault yX10_fault ∈ gT := gT_t (List.mem_of_getElem? (i := 1427) (by decide +kernel)) (by decide +kernel)
theorem tw_1428 : Cond.code yX10_fault cX10_fault 1 (some .int) ∈ gT := gT_t (List.mem_of_getElem? (i := 1428) (by decide +kernel)) (by decide +kernel)
theorem tw_1429 : Cond.methodLink RL (44 : Nat) yX10_much ∈ gT := gT_t (List.mem_of_getElem? (i := 1429) (by decide +kernel)) (by decide +kernel)
theorem tw_1430 : Cond.instanceMethod yX10_much ∈ gT := gT_t (List.mem_of_getElem? (i := 1430) (by decide +kernel)) (by decide +kernel)
theorem tw_1431 : Cond.selects RX10 yX10_much yX10_much ∈ gT := gT_t (List.mem_of_getElem? (i := 1431) (by decide +kernel)) (by decide +kernel)
theorem tw_1432 : Cond.code yX10_much cX10_much 3 (some .int) ∈ gT := gT_t (List.mem_of_getElem? (i := 1432) (by decide +kernel)) (by decide +kernel)
theorem tw_1477 : Cond.methodLink RL (61 : Nat) yX10_need ∈ gT := gT_t (List.mem_of_getElem? (i := 1477) (by decide +kernel)) (by decide +kernel)
theorem tw_1478 : Cond.instanceMethod yX10_need ∈ gT := gT_t (List.mem_of_getElem? (i := 1478) (by decide +kernel)) (by decide +kernel)
theorem tw_1479 : Cond.selects RX10 yX10_need yX10_need ∈ gT := gT_t (List.mem_of_getElem? (i := 1479) (by decide +kernel)) (by decide +kernel)
theorem tw_1480 : Cond.code yX10_need cX10_need 2 (some .int) ∈ gT := gT_t (List.mem_of_getElem? (i := 1480) (by decide +kernel)) (by decide +kernel)
theorem tw_1481 : Cond.methodLink RL (65 : Nat) yX10_quarrels ∈ gT := gT_t (List.mem_of_getElem? (i := 1481) (by decide +kernel)) (by decide +kernel)
theorem tw_1482 : Cond.instanceMethod yX10_quarrels ∈ gT := gT_t (List.mem_of_getElem? (i := 1482) (by decide +kernel)) (by decide +kernel)
theorem tw_1483 : Cond.selects RX10 yX10_quarrels yX10_quarrels ∈ gT := gT_t (List.mem_of_getElem? (i := 1483) (by decide +kernel)) (by decide +kernel)
theorem tw_1484 : Cond.code yX10_quarrels cX10_quarrels 2 (some .int) ∈ gT := gT_t (List.mem_of_getElem? (i := 1484) (by decide +kernel)) (by decide +kernel)
theorem tw_1485 : Cond.methodLink RL (69 : Nat) yX10_now ∈ gT := gT_t (List.mem_of_getElem? (i := 1485) (by decide +kernel)) (by decide +kernel)
theorem tw_1486 : Cond.instanceMethod yX10_now ∈ gT := gT_t (List.mem_of_getElem? (i := 1486) (by decide +kernel)) (by decide +kernel)
theorem tw_1487 : Cond.selects RX10 yX10_now yX10_now ∈ gT := gT_t (List.mem_of_getElem? (i := 1487) (by decide +kernel)) (by decide +kernel)
theorem tw_1488 : Cond.code yX10_now cX10_now 4 (some .int) ∈ gT := gT_t (List.mem_of_getElem? (i := 1488) (by decide +kernel)) (by decide +kernel)
theorem tw_1497 : Cond.methodLink RL (73 : Nat) yX10_sit ∈ gT := gT_t (List.mem_of_getElem? (i := 1497) (by decide +kernel)) (by decide +kernel)
theorem tw_1498 : Cond.instanceMethod yX10_sit ∈ gT := gT_t (List.mem_of_getElem? (i := 1498) (by decide +kernel)) (by decide +kernel)
theorem tw_1499 : Cond.selects RX10 yX10_sit yX10_sit ∈ gT := gT_t (List.mem_of_getElem? (i := 1499) (by decide +kernel)) (by decide +kernel)
theorem tw_1500 : Cond.code yX10_sit cX10_sit 3 (some .int) ∈ gT := gT_t (List.mem_of_getElem? (i := 1500) (by decide +kernel)) (by decide +kernel)
theorem tw_1532 : Cond.methodLink RL (77 : Nat) yX10_stand ∈ gT := gT_t (List.mem_of_getElem? (i := 1532) (by decide +kernel)) (by decide +kernel)
theorem tw_1533 : Cond.instanceMethod yX10_stand ∈ gT := gT_t (List.mem_of_getElem? (i := 1533) (by decide +kernel)) (by decide +kernel)
theorem tw_1534 : Cond.selects RX10 yX10_stand yX10_stand ∈ gT := gT_t (List.mem_of_getElem? (i := 1534) (by decide +kernel)) (by decide +kernel)
theorem tw_1535 : Cond.code yX10_stand cX10_stand 2 (some .int) ∈ gT := gT_t (List.mem_of_getElem? (i := 1535) (by decide +kernel)) (by decide +kernel)
theorem tw_1536 : Cond.methodLink RL (81 : Nat) yX10_wish ∈ gT := gT_t (List.mem_of_getElem? (i := 1536) (by decide +kernel)) (by decide +kernel)
theorem tw_1537 : Cond.instanceMethod yX10_wish ∈ gT := gT_t (List.mem_of_getElem? (i := 1537) (by decide +kernel)) (by decide +kernel)
theorem tw_1538 : Cond.selects RX10 yX10_wish yX10_wish ∈ gT := gT_t (List.mem_of_getElem? (i := 1538) (by decide +kernel)) (by decide +kernel)
theorem tw_1539 : Cond.code yX10_wish cX10_wish 3 (some .int) ∈ gT := gT_t (List.mem_of_getElem? (i := 1539) (by decide +kernel)) (by decide +kernel)
theorem tw_1540 : Cond.methodLink RL (85 : Nat) yX10_guess ∈ gT := gT_t (List.mem_of_getElem? (i := 1540) (by decide +kernel)) (by decide +kernel)
theorem tw_1541 : Cond.instanceMethod yX10_guess ∈ gT := gT_t (List.mem_of_getElem? (i := 1541) (by decide +kernel)) (by decide +kernel)
theorem tw_1542 : Cond.selects RX10 yX10_guess yX10_guess ∈ gT := gT_t (List.mem_of_getElem? (i := 1542) (by decide +kernel)) (by decide +kernel)
theorem tw_1543 : Cond.code yX10_guess cX10_guess 5 (some .int) ∈ gT := gT_t (List.mem_of_getElem? (i := 1543) (by decide +kernel)) (by decide +kernel)
theorem tw_1544 : Cond.methodLink RL (89 : Nat) yX10_open ∈ gT := gT_t (List.mem_of_getElem? (i := 1544) (by decide +kernel)) (by decide +kernel)
theorem tw_1545 : Cond.instanceMethod yX10_open ∈ gT := gT_t (List.mem_of_getElem? (i := 1545) (by decide +kernel)) (by decide +kernel)
theorem tw_1546 : Cond.selects RX10 yX10_open yX10_open ∈ gT := gT_t (List.mem_of_getElem? (i := 1546) (by decide +kernel)) (by decide +kernel)
theorem tw_1547 : Cond.code yX10_open cX10_open 2 (some .int) ∈ gT := gT_t (List.mem_of_getElem? (i := 1547) (by decide +kernel)) (by decide +kernel)
theorem tw_1548 : Cond.methodLink RL (93 : Nat) yX10_carry ∈ gT := gT_t (List.mem_of_getElem? (i := 1548) (by decide +kernel)) (by decide +kernel)
theorem tw_1549 : Cond.instanceMethod yX10_carry ∈ gT := gT_t (List.mem_of_getElem? (i := 1549) (by decide +kernel)) (by decide +kernel)
theorem tw_1550 : Cond.selects RX10 yX10_carry yX10_carry ∈ gT := gT_t (List.mem_of_getElem? (i := 1550) (by decide +kernel)) (by decide +kernel)
theorem tw_1551 : Cond.code yX10_carry cX10_carry 3 (some .int) ∈ gT := gT_t (List.mem_of_getElem? (i := 1551) (by decide +kernel)) (by decide +kernel)
theorem tw_1556 : Cond.methodLink RL (101 : Nat) yX10_undo ∈ gT := gT_t (List.mem_of_getElem? (i := 1556) (by decide +kernel)) (by decide +kernel)
theorem tw_1557 : Cond.instanceMethod yX10_undo ∈ gT := gT_t (List.mem_of_getElem? (i := 1557) (by decide +kernel)) (by decide +kernel)
theorem tw_1558 : Cond.selects RX10 yX10_undo yX10_undo ∈ gT := gT_t (List.mem_of_getElem? (i := 1558) (by decide +kernel)) (by decide +kernel)
theorem tw_1559 : Cond.code yX10_undo cX10_undo 2 (some .int) ∈ gT := gT_t (List.mem_of_getElem? (i := 1559) (by decide +kernel)) (by decide +kernel)
theorem tw_1560 : Cond.methodLink RL (97 : Nat) yX10_days ∈ gT := gT_t (List.mem_of_getElem? (i := 1560) (by decide +kernel)) (by decide +kernel)
theorem tw_1561 : Cond.instanceMethod yX10_days ∈ gT := gT_t (List.mem_of_getElem? (i := 1561) (by decide +kernel)) (by decide +kernel)
theorem tw_1562 : Cond.selects RX10 yX10_days yX10_days ∈ gT := gT_t (List.mem_of_getElem? (i := 1562) (by decide +kernel)) (by decide +kernel)
theorem tw_1563 : Cond.code yX10_days cX10_days 2 (some .int) ∈ gT := gT_t (List.mem_of_getElem? (i := 1563) (by decide +kernel)) (by decide +kernel)
theorem tw_1583 : Cond.methodLink RL (105 : Nat) yX10_when ∈ gT := gT_t (List.mem_of_getElem? (i := 1583) (by decide +kernel)) (by decide +kernel)
theorem tw_1584 : Cond.instanceMethod yX10_when ∈ gT := gT_t (List.mem_of_getElem? (i := 1584) (by decide +kernel)) (by decide +kernel)
theorem tw_1585 : Cond.selects RX10 yX10_when yX10_when ∈ gT := gT_t (List.mem_of_getElem? (i := 1585) (by decide +kernel)) (by decide +kernel)
theorem tw_1586 : Cond.code yX10_when cX10_when 4 (some .int) ∈ gT := gT_t (List.mem_of_getElem? (i := 1586) (by decide +kernel)) (by decide +kernel)
theorem tw_1595 : Cond.methodLink RL (110 : Nat) yX10_sitters ∈ gT := gT_t (List.mem_of_getElem? (i := 1595) (by decide +kernel)) (by decide +kernel)
theorem tw_1596 : Cond.instanceMethod yX10_sitters ∈ gT := gT_t (List.mem_of_getElem? (i := 1596) (by decide +kernel)) (by decide +kernel)
theorem tw_1597 : Cond.selects RX10 yX10_sitters yX10_sitters ∈ gT := gT_t (List.mem_of_getElem? (i := 1597) (by decide +kernel)) (by decide +kernel)
theorem tw_1598 : Cond.code yX10_sitters cX10_sitters 7 (some .int) ∈ gT := gT_t (List.mem_of_getElem? (i := 1598) (by decide +kernel)) (by decide +kernel)
theorem tw_1599 : Cond.methodLink RL (114 : Nat) yX10_sitting ∈ gT := gT_t (List.mem_of_getElem? (i := 1599) (by decide +kernel)) (by decide +kernel)
theorem tw_1600 : Cond.instanceMethod yX10_sitting ∈ gT := gT_t (List.mem_of_getElem? (i := 1600) (by decide +kernel)) (by decide +kernel)
theorem tw_1601 : Cond.selects RX10 yX10_sitting yX10_sitting ∈ gT := gT_t (List.mem_of_getElem? (i := 1601) (by decide +kernel)) (by decide +kernel)
theorem tw_1602 : Cond.code yX10_sitting cX10_sitting 1 (some .int) ∈ gT := gT_t (List.mem_of_getElem? (i := 1602) (by decide +kernel)) (by decide +kernel)
theorem tw_1603 : Cond.methodLink RL (118 : Nat) yX10_sat ∈ gT := gT_t (List.mem_of_getElem? (i := 1603) (by decide +kernel)) (by decide +kernel)
theorem tw_1604 : Cond.instanceMethod yX10_sat ∈ gT := gT_t (List.mem_of_getElem? (i := 1604) (by decide +kernel)) (by decide +kernel)
theorem tw_1605 : Cond.selects RX10 yX10_sat yX10_sat ∈ gT := gT_t (List.mem_of_getElem? (i := 1605) (by decide +kernel)) (by decide +kernel)
theorem tw_1606 : Cond.code yX10_sat cX10_sat 6 (some .int) ∈ gT := gT_t (List.mem_of_getElem? (i := 1606) (by decide +kernel)) (by decide +kernel)
theorem tw_1622 : Cond.methodLink RL (122 : Nat) yX10_surely ∈ gT := gT_t (List.mem_of_getElem? (i := 1622) (by decide +kernel)) (by decide +kernel)
theorem tw_1623 : Cond.instanceMethod yX10_surely ∈ gT := gT_t (List.mem_of_getElem? (i := 1623) (by decide +kernel)) (by decide +kernel)
theorem tw_1624 : Cond.selects RX10 yX10_surely yX10_surely ∈ gT := gT_t (List.mem_of_getElem? (i := 1624) (by decide +kernel)) (by decide +kernel)
theorem tw_1625 : Cond.code yX10_surely cX10_surely 1 (some .int) ∈ gT := gT_t (List.mem_of_getElem? (i := 1625) (by decide +kernel)) (by decide +kernel)
theorem tw_1626 : Cond.methodLink RL (126 : Nat) yX10_ask ∈ gT := gT_t (List.mem_of_getElem? (i := 1626) (by decide +kernel)) (by decide +kernel)
theorem tw_1627 : Cond.instanceMethod yX10_ask ∈ gT := gT_t (List.mem_of_getElem? (i := 1627) (by decide +kernel)) (by decide +kernel)
theorem tw_1628 : Cond.selects RX10 yX10_ask yX10_ask ∈ gT := gT_t (List.mem_of_getElem? (i := 1628) (by decide +kernel)) (by decide +kernel)
theorem tw_1629 : Cond.code yX10_ask cX10_ask 1 (some .int) ∈ gT := gT_t (List.mem_of_getElem? (i := 1629) (by decide +kernel)) (by decide +kernel)
theorem tw_1630 : Cond.methodLink RL (130 : Nat) yX10_let ∈ gT := gT_t (List.mem_of_getElem? (i := 1630) (by decide +kernel)) (by decide +kernel)
theorem tw_1631 : Cond.instanceMethod yX10_let ∈ gT := gT_t (List.mem_of_getElem? (i := 1631) (by decide +kernel)) (by decide +kernel)
theorem tw_1632 : Cond.selects RX10 yX10_let yX10_let ∈ gT := gT_t (List.mem_of_getElem? (i := 1632) (by decide +kernel)) (by decide +kernel)
theorem tw_1633 : Cond.code yX10_let cX10_let 3 (some .int) ∈ gT := gT_t (List.mem_of_getElem? (i := 1633) (by decide +kernel)) (by decide +kernel)
theorem tw_1634 : Cond.methodLink RL (134 : Nat) yX10_rooms ∈ gT := gT_t (List.mem_of_getElem? (i := 1634) (by decide +kernel)) (by decide +kernel)
theorem tw_1635 : Cond.instanceMethod yX10_rooms ∈ gT := gT_t (List.mem_of_getElem? (i := 1635) (by decide +kernel)) (by decide +kernel)
theorem tw_1636 : Cond.selects RX10 yX10_rooms yX10_rooms ∈ gT := gT_t (List.mem_of_getElem? (i := 1636) (by decide +kernel)) (by decide +kernel)
theorem tw_1637 : Cond.code yX10_rooms cX10_rooms 3 (some .int) ∈ gT := gT_t (List.mem_of_getElem? (i := 1637) (by decide +kernel)) (by decide +kernel)
theorem tw_1646 : Cond.methodLink RL (138 : Nat) yX10_roomOf ∈ gT := gT_t (List.mem_of_getElem? (i := 1646) (by decide +kernel)) (by decide +kernel)
theorem tw_1647 : Cond.instanceMethod yX10_roomOf ∈ gT := gT_t (List.mem_of_getElem? (i := 1647) (by decide +kernel)) (by decide +kernel)
theorem tw_1648 : Cond.selects RX10 yX10_roomOf yX10_roomOf ∈ gT := gT_t (List.mem_of_getElem? (i := 1648) (by decide +kernel)) (by decide +kernel)
theorem tw_1649 : Cond.code yX10_roomOf cX10_roomOf 2 (some .int) ∈ gT := gT_t (List.mem_of_getElem? (i := 1649) (by decide +kernel)) (by decide +kernel)
theorem tw_1650 : Cond.methodLink RL (142 : Nat) yX10_rest ∈ gT := gT_t (List.mem_of_getElem? (i := 1650) (by decide +kernel)) (by decide +kernel)
theorem tw_1651 : Cond.instanceMethod yX10_rest ∈ gT := gT_t (List.mem_of_getElem? (i := 1651) (by decide +kernel)) (by decide +kernel)
theorem tw_1652 : Cond.selects RX10 yX10_rest yX10_rest ∈ gT := gT_t (List.mem_of_getElem? (i := 1652) (by decide +kernel)) (by decide +kernel)
theorem tw_1653 : Cond.code yX10_rest cX10_rest 4 (some .int) ∈ gT := gT_t (List.mem_of_getElem? (i := 1653) (by decide +kernel)) (by decide +kernel)
theorem tw_1662 : Cond.methodLink RL (146 : Nat) yX10_rested ∈ gT := gT_t (List.mem_of_getElem? (i := 1662) (by decide +kernel)) (by decide +kernel)
theorem tw_1663 : Cond.instanceMethod yX10_rested ∈ gT := gT_t (List.mem_of_getElem? (i := 1663) (by decide +kernel)) (by decide +kernel)
theorem tw_1664 : Cond.selects RX10 yX10_rested yX10_rested ∈ gT := gT_t (List.mem_of_getElem? (i := 1664) (by decide +kernel)) (by decide +kernel)
theorem tw_1665 : Cond.code yX10_rested cX10_rested 2 (some .int) ∈ gT := gT_t (List.mem_of_getElem? (i := 1665) (by decide +kernel)) (by decide +kernel)
theorem tw_1666 : Cond.methodLink RL (150 : Nat) yX10_greatest ∈ gT := gT_t (List.mem_of_getElem? (i := 1666) (by decide +kernel)) (by decide +kernel)
theorem tw_1667 : Cond.instanceMethod yX10_greatest ∈ gT := gT_t (List.mem_of_getElem? (i := 1667) (by decide +kernel)) (by decide +kernel)
theorem tw_1668 : Cond.selects RX10 yX10_greatest yX10_greatest ∈ gT := gT_t (List.mem_of_getElem? (i := 1668) (by decide +kernel)) (by decide +kernel)
theorem tw_1669 : Cond.code yX10_greatest cX10_greatest 3 (some .int) ∈ gT := gT_t (List.mem_of_getElem? (i := 1669) (by decide +kernel)) (by decide +kernel)
theorem tw_1670 : Cond.methodLink RL (154 : Nat) yX10_tag ∈ gT := gT_t (List.mem_of_getElem? (i := 1670) (by decide +kernel)) (by decide +kernel)
theorem tw_1671 : Cond.instanceMethod yX10_tag ∈ gT := gT_t (List.mem_of_getElem? (i := 1671) (by decide +kernel)) (by decide +kernel)
theorem tw_1672 : Cond.selects RX10 yX10_tag yX10_tag ∈ gT := gT_t (List.mem_of_getElem? (i := 1672) (by decide +kernel)) (by decide +kernel)
theorem tw_1673 : Cond.code yX10_tag cX10_tag 2 (some .int) ∈ gT := gT_t (List.mem_of_getElem? (i := 1673) (by decide +kernel)) (by decide +kernel)
theorem tw_1686 : Cond.methodLink RL (158 : Nat) yX10_byteAt ∈ gT := gT_t (List.mem_of_getElem? (i := 1686) (by decide +kernel)) (by decide +kernel)
theorem tw_1687 : Cond.instanceMethod yX10_byteAt ∈ gT := gT_t (List.mem_of_getElem? (i := 1687) (by decide +kernel)) (by decide +kernel)
theorem tw_1688 : Cond.selects RX10 yX10_byteAt yX10_byteAt ∈ gT := gT_t (List.mem_of_getElem? (i := 1688) (by decide +kernel)) (by decide +kernel)
theorem tw_1689 : Cond.code yX10_byteAt cX10_byteAt 2 (some .int) ∈ gT := gT_t (List.mem_of_getElem? (i := 1689) (by decide +kernel)) (by decide +kernel)
theorem tw_1690 : Cond.methodLink RL (162 : Nat) yX10_drawn ∈ gT := gT_t (List.mem_of_getElem? (i := 1690) (by decide +kernel)) (by decide +kernel)
theorem tw_1691 : Cond.instanceMethod yX10_drawn ∈ gT := gT_t (List.mem_of_getElem? (i := 1691) (by decide +kernel)) (by decide +kernel)
theorem tw_1692 : Cond.selects RX10 yX10_drawn yX10_drawn ∈ gT := gT_t (List.mem_of_getElem? (i := 1692) (by decide +kernel)) (by decide +kernel)
theorem tw_1693 : Cond.code yX10_drawn cX10_drawn 3 (some .int) ∈ gT := gT_t (List.mem_of_getElem? (i := 1693) (by decide +kernel)) (by decide +kernel)
theorem tw_1707 : Cond.methodLink RL (167 : Nat) yX10_odds ∈ gT := gT_t (List.mem_of_getElem? (i := 1707) (by decide +kernel)) (by decide +kernel)
theorem tw_1708 : Cond.instanceMethod yX10_odds ∈ gT := gT_t (List.mem_of_getElem? (i := 1708) (by decide +kernel)) (by decide +kernel)
theorem tw_1709 : Cond.selects RX10 yX10_odds yX10_odds ∈ gT := gT_t (List.mem_of_getElem? (i := 1709) (by decide +kernel)) (by decide +kernel)
theorem tw_1710 : Cond.code yX10_odds cX10_odds 7 (some .int) ∈ gT := gT_t (List.mem_of_getElem? (i := 1710) (by decide +kernel)) (by decide +kernel)
theorem tw_1711 : Cond.methodLink RL (171 : Nat) yX10_book ∈ gT := gT_t (List.mem_of_getElem? (i := 1711) (by decide +kernel)) (by decide +kernel)
theorem tw_1712 : Cond.instanceMethod yX10_book ∈ gT := gT_t (List.mem_of_getElem? (i := 1712) (by decide +kernel)) (by decide +kernel)
theorem tw_1713 : Cond.selects RX10 yX10_book yX10_book ∈ gT := gT_t (List.mem_of_getElem? (i := 1713) (by decide +kernel)) (by decide +kernel)
theorem tw_1714 : Cond.code yX10_book cX10_book 4 (some .int) ∈ gT := gT_t (List.mem_of_getElem? (i := 1714) (by decide +kernel)) (by decide +kernel)
theorem tw_1747 : Cond.methodLink RL (175 : Nat) yX10_told ∈ gT := gT_t (List.mem_of_getElem? (i := 1747) (by decide +kernel)) (by decide +kernel)
theorem tw_1748 : Cond.instanceMethod yX10_told ∈ gT := gT_t (List.mem_of_getElem? (i := 1748) (by decide +kernel)) (by decide +kernel)
theorem tw_1749 : Cond.selects RX10 yX10_told yX10_told ∈ gT := gT_t (List.mem_of_getElem? (i := 1749) (by decide +kernel)) (by decide +kernel)
theorem tw_1750 : Cond.code yX10_told cX10_told 2 (some .int) ∈ gT := gT_t (List.mem_of_getElem? (i := 1750) (by decide +kernel)) (by decide +kernel)
theorem tw_1751 : Cond.methodLink RL (179 : Nat) yX10_sentence ∈ gT := gT_t (List.mem_of_getElem? (i := 1751) (by decide +kernel)) (by decide +kernel)
theorem tw_1752 : Cond.instanceMethod yX10_sentence ∈ gT := gT_t (List.mem_of_getElem? (i := 1752) (by decide +kernel)) (by decide +kernel)
theorem tw_1753 : Cond.selects RX10 yX10_sentence yX10_sentence ∈ gT := gT_t (List.mem_of_getElem? (i := 1753) (by decide +kernel)) (by decide +kernel)
theorem tw_1754 : Cond.code yX10_sentence cX10_sentence 2 (some .int) ∈ gT := gT_t (List.mem_of_getElem? (i := 1754) (by decide +kernel)) (by decide +kernel)
theorem tw_1787 : Cond.methodLink RL (183 : Nat) yX10_said ∈ gT := gT_t (List.mem_of_getElem? (i := 1787) (by decide +kernel)) (by decide +kernel)
theorem tw_1788 : Cond.instanceMethod yX10_said ∈ gT := gT_t (List.mem_of_getElem? (i := 1788) (by decide +kernel)) (by decide +kernel)
theorem tw_1789 : Cond.selects RX10 yX10_said yX10_said ∈ gT := gT_t (List.mem_of_getElem? (i := 1789) (by decide +kernel)) (by decide +kernel)
theorem tw_1790 : Cond.code yX10_said cX10_said 4 (some .int) ∈ gT := gT_t (List.mem_of_getElem? (i := 1790) (by decide +kernel)) (by decide +kernel)
theorem tw_1795 : Cond.methodLink RL (187 : Nat) yX10_image ∈ gT := gT_t (List.mem_of_getElem? (i := 1795) (by decide +kernel)) (by decide +kernel)
theorem tw_1796 : Cond.instanceMethod yX10_image ∈ gT := gT_t (List.mem_of_getElem? (i := 1796) (by decide +kernel)) (by decide +kernel)
theorem tw_1797 : Cond.selects RX10 yX10_image yX10_image ∈ gT := gT_t (List.mem_of_getElem? (i := 1797) (by decide +kernel)) (by decide +kernel)
theorem tw_1798 : Cond.code yX10_image cX10_image 3 (some .boolean) ∈ gT := gT_t (List.mem_of_getElem? (i := 1798) (by decide +kernel)) (by decide +kernel)
theorem tw_1799 : Cond.methodLink RL (191 : Nat) yX10_restore ∈ gT := gT_t (List.mem_of_getElem? (i := 1799) (by decide +kernel)) (by decide +kernel)
theorem tw_1800 : Cond.instanceMethod yX10_restore ∈ gT := gT_t (List.mem_of_getElem? (i := 1800) (by decide +kernel)) (by decide +kernel)
theorem tw_1801 : Cond.selects RX10 yX10_restore yX10_restore ∈ gT := gT_t (List.mem_of_getElem? (i := 1801) (by decide +kernel)) (by decide +kernel)
theorem tw_1802 : Cond.code yX10_restore cX10_restore 3 (some .boolean) ∈ gT := gT_t (List.mem_of_getElem? (i := 1802) (by decide +kernel)) (by decide +kernel)
theorem tw_1803 : Cond.methodLink RL (195 : Nat) yX10_count ∈ gT := gT_t (List.mem_of_getElem? (i := 1803) (by decide +kernel)) (by decide +kernel)
theorem tw_1804 : Cond.instanceMethod yX10_count ∈ gT := gT_t (List.mem_of_getElem? (i := 1804) (by decide +kernel)) (by decide +kernel)
theorem tw_1805 : Cond.selects RX10 yX10_count yX10_count ∈ gT := gT_t (List.mem_of_getElem? (i := 1805) (by decide +kernel)) (by decide +kernel)
theorem tw_1806 : Cond.code yX10_count cX10_count 2 (some .int) ∈ gT := gT_t (List.mem_of_getElem? (i := 1806) (by decide +kernel)) (by decide +kernel)
theorem dL_law_23 : decode cL_law 23 = .ok (.iload 4, 2) := by decide +kernel
theorem dL_law_25 : decode cL_law 25 = .ok (.aload_n 0, 1) := by decide +kernel
theorem dL_law_26 : decode cL_law 26 = .ok (.arraylength, 1) := by decide +kernel
theorem dL_law_27 : decode cL_law 27 = .ok (.bipush 6, 2) := by decide +kernel
theorem dL_law_29 : decode cL_law 29 = .ok (.isub, 1) := by decide +kernel
theorem dL_law_30 : decode cL_law 30 = .ok (.if_icmp .gt 1367, 3) := by decide +kernel
theorem dL_law_220 : decode cL_law 220 = .ok (.aload_n 1, 1) := by decide +kernel
theorem dL_law_221 : decode cL_law 221 = .ok (.aload_n 0, 1) := by decide +kernel
theorem dL_law_222 : decode cL_law 222 = .ok (.iload 4, 2) := by decide +kernel
theorem dL_law_224 : decode cL_law 224 = .ok (.iconst 1, 1) := by decide +kernel
theorem dL_law_225 : decode cL_law 225 = .ok (.iadd, 1) := by decide +kernel
theorem dL_law_226 : decode cL_law 226 = .ok (.iaload, 1) := by decide +kernel
theorem dL_law_227 : decode cL_law 227 = .ok (.aload_n 0, 1) := by decide +kernel
theorem dL_law_228 : decode cL_law 228 = .ok (.iload 4, 2) := by decide +kernel
theorem dL_law_230 : decode cL_law 230 = .ok (.iconst 2, 1) := by decide +kernel
theorem dL_law_231 : decode cL_law 231 = .ok (.iadd, 1) := by decide +kernel
theorem dL_law_232 : decode cL_law 232 = .ok (.iaload, 1) := by decide +kernel
theorem dL_law_233 : decode cL_law 233 = .ok (.aload_n 0, 1) := by decide +kernel
theorem dL_law_234 : decode cL_law 234 = .ok (.iload 4, 2) := by decide +kernel
theorem dL_law_236 : decode cL_law 236 = .ok (.iconst 3, 1) := by decide +kernel
theorem dL_law_237 : decode cL_law 237 = .ok (.iadd, 1) := by decide +kernel
theorem dL_law_238 : decode cL_law 238 = .ok (.iaload, 1) := by decide +kernel
theorem dL_law_239 : decode cL_law 239 = .ok (.aload_n 0, 1) := by decide +kernel
theorem dL_law_240 : decode cL_law 240 = .ok (.iload 4, 2) := by decide +kernel
theorem dL_law_242 : decode cL_law 242 = .ok (.iconst 4, 1) := by decide +kernel
theorem dL_law_243 : decode cL_law 243 = .ok (.iadd, 1) := by decide +kernel
theorem dL_law_244 : decode cL_law 244 = .ok (.iaload, 1) := by decide +kernel
theorem dL_law_245 : decode cL_law 245 = .ok (.aload_n 0, 1) := by decide +kernel
theorem dL_law_246 : decode cL_law 246 = .ok (.iload 4, 2) := by decide +kernel
theorem dL_law_248 : decode cL_law 248 = .ok (.iconst 5, 1) := by decide +kernel
theorem dL_law_249 : decode cL_law 249 = .ok (.iadd, 1) := by decide +kernel
theorem dL_law_250 : decode cL_law 250 = .ok (.iaload, 1) := by decide +kernel
theorem dL_law_251 : decode cL_law 251 = .ok (.invokevirtual 22, 3) := by decide +kernel
theorem dL_law_254 : decode cL_law 254 = .ok (.aload_n 2, 1) := by decide +kernel
theorem dL_law_255 : decode cL_law 255 = .ok (.aload_n 0, 1) := by decide +kernel
theorem dL_law_256 : decode cL_law 256 = .ok (.iload 4, 2) := by decide +kernel
theorem dL_law_258 : decode cL_law 258 = .ok (.iconst 1, 1) := by decide +kernel
theorem dL_law_259 : decode cL_law 259 = .ok (.iadd, 1) := by decide +kernel
theorem dL_law_260 : decode cL_law 260 = .ok (.iaload, 1) := by decide +kernel
theorem dL_law_261 : decode cL_law 261 = .ok (.aload_n 0, 1) := by decide +kernel
theorem dL_law_262 : decode cL_law 262 = .ok (.iload 4, 2) := by decide +kernel
theorem dL_law_264 : decode cL_law 264 = .ok (.iconst 2, 1) := by decide +kernel
theorem dL_law_265 : decode cL_law 265 = .ok (.iadd, 1) := by decide +kernel
theorem dL_law_266 : decode cL_law 266 = .ok (.iaload, 1) := by decide +kernel
theorem dL_law_267 : decode cL_law 267 = .ok (.aload_n 0, 1) := by decide +kernel
theorem dL_law_268 : decode cL_law 268 = .ok (.iload 4, 2) := by decide +kernel
theorem dL_law_270 : decode cL_law 270 = .ok (.iconst 3, 1) := by decide +kernel
theorem dL_law_271 : decode cL_law 271 = .ok (.iadd, 1) := by decide +kernel
theorem dL_law_272 : decode cL_law 272 = .ok (.iaload, 1) := by decide +kernel
theorem dL_law_273 : decode cL_law 273 = .ok (.aload_n 0, 1) := by decide +kernel
theorem dL_law_274 : decode cL_law 274 = .ok (.iload 4, 2) := by decide +kernel
theorem dL_law_276 : decode cL_law 276 = .ok (.iconst 4, 1) := by decide +kernel
theorem dL_law_277 : decode cL_law 277 = .ok (.iadd, 1) := by decide +kernel
theorem dL_law_278 : decode cL_law 278 = .ok (.iaload, 1) := by decide +kernel
theorem dL_law_279 : decode cL_law 279 = .ok (.aload_n 0, 1) := by decide +kernel
theorem dL_law_280 : decode cL_law 280 = .ok (.iload 4, 2) := by decide +kernel
theorem dL_law_282 : decode cL_law 282 = .ok (.iconst 5, 1) := by decide +kernel
theorem dL_law_283 : decode cL_law 283 = .ok (.iadd, 1) := by decide +kernel
theorem dL_law_284 : decode cL_law 284 = .ok (.iaload, 1) := by decide +kernel
theorem dL_law_285 : decode cL_law 285 = .ok (.invokevirtual 26, 3) := by decide +kernel
theorem dL_law_288 : decode cL_law 288 = .ok (.if_icmp .eq 1103, 3) := by decide +kernel
theorem dL_law_293 : decode cL_law 293 = .ok (.aload_n 1, 1) := by decide +kernel
theorem dL_law_294 : decode cL_law 294 = .ok (.aload_n 0, 1) := by decide +kernel
theorem dL_law_295 : decode cL_law 295 = .ok (.iload 4, 2) := by decide +kernel
theorem dL_law_297 : decode cL_law 297 = .ok (.iconst 1, 1) := by decide +kernel
theorem dL_law_298 : decode cL_law 298 = .ok (.iadd, 1) := by decide +kernel
theorem dL_law_299 : decode cL_law 299 = .ok (.iaload, 1) := by decide +kernel
theorem dL_law_300 : decode cL_law 300 = .ok (.invokevirtual 27, 3) := by decide +kernel
theorem dL_law_303 : decode cL_law 303 = .ok (.aload_n 2, 1) := by decide +kernel
theorem dL_law_304 : decode cL_law 304 = .ok (.aload_n 0, 1) := by decide +kernel
theorem dL_law_305 : decode cL_law 305 = .ok (.iload 4, 2) := by decide +kernel
theorem dL_law_307 : decode cL_law 307 = .ok (.iconst 1, 1) := by decide +kernel
theorem dL_law_308 : decode cL_law 308 = .ok (.iadd, 1) := by decide +kernel
theorem dL_law_309 : decode cL_law 309 = .ok (.iaload, 1) := by decide +kernel
theorem dL_law_310 : decode cL_law 310 = .ok (.invokevirtual 31, 3) := by decide +kernel
theorem dL_law_313 : decode cL_law 313 = .ok (.if_icmp .eq 1078, 3) := by decide +kernel
theorem dL_law_318 : decode cL_law 318 = .ok (.aload_n 1, 1) := by decide +kernel
theorem dL_law_319 : decode cL_law 319 = .ok (.invokevirtual 32, 3) := by decide +kernel
theorem dL_law_322 : decode cL_law 322 = .ok (.aload_n 2, 1) := by decide +kernel
theorem dL_law_323 : decode cL_law 323 = .ok (.invokevirtual 36, 3) := by decide +kernel
theorem dL_law_326 : decode cL_law 326 = .ok (.if_icmp .eq 1065, 3) := by decide +kernel
theorem dL_law_331 : decode cL_law 331 = .ok (.aload_n 1, 1) := by decide +kernel
theorem dL_law_332 : decode cL_law 332 = .ok (.invokevirtual 37, 3) := by decide +kernel
theorem dL_law_335 : decode cL_law 335 = .ok (.aload_n 2, 1) := by decide +kernel
theorem dL_law_336 : decode cL_law 336 = .ok (.invokevirtual 40, 3) := by decide +kernel
theorem dL_law_339 : decode cL_law 339 = .ok (.if_icmp .eq 1052, 3) := by decide +kernel
theorem dL_law_344 : decode cL_law 344 = .ok (.aload_n 1, 1) := by decide +kernel
theorem dL_law_345 : decode cL_law 345 = .ok (.aload_n 0, 1) := by decide +kernel
theorem dL_law_346 : decode cL_law 346 = .ok (.iload 4, 2) := by decide +kernel
theorem dL_law_348 : decode cL_law 348 = .ok (.iconst 1, 1) := by decide +kernel
theorem dL_law_349 : decode cL_law 349 = .ok (.iadd, 1) := by decide +kernel
theorem dL_law_350 : decode cL_law 350 = .ok (.iaload, 1) := by decide +kernel
theorem dL_law_351 : decode cL_law 351 = .ok (.aload_n 0, 1) := by decide +kernel
theorem dL_law_352 : decode cL_law 352 = .ok (.iload 4, 2) := by decide +kernel
theorem dL_law_354 : decode cL_law 354 = .ok (.iconst 2, 1) := by decide +kernel
theorem dL_law_355 : decode cL_law 355 = .ok (.iadd, 1) := by decide +kernel
theorem dL_law_356 : decode cL_law 356 = .ok (.iaload, 1) := by decide +kernel
theorem dL_law_357 : decode cL_law 357 = .ok (.invokevirtual 41, 3) := by decide +kernel
theorem dL_law_360 : decode cL_law 360 = .ok (.aload_n 2, 1) := by decide +kernel
theorem dL_law_361 : decode cL_law 361 = .ok (.aload_n 0, 1) := by decide +kernel
theorem dL_law_362 : decode cL_law 362 = .ok (.iload 4, 2) := by decide +kernel
theorem dL_law_364 : decode cL_law 364 = .ok (.iconst 1, 1) := by decide +kernel
theorem dL_law_365 : decode cL_law 365 = .ok (.iadd, 1) := by decide +kernel
theorem dL_law_366 : decode cL_law 366 = .ok (.iaload, 1) := by decide +kernel
theorem dL_law_367 : decode cL_law 367 = .ok (.aload_n 0, 1) := by decide +kernel
theorem dL_law_368 : decode cL_law 368 = .ok (.iload 4, 2) := by decide +kernel
theorem dL_law_370 : decode cL_law 370 = .ok (.iconst 2, 1) := by decide +kernel
theorem dL_law_371 : decode cL_law 371 = .ok (.iadd, 1) := by decide +kernel
theorem dL_law_372 : decode cL_law 372 = .ok (.iaload, 1) := by decide +kernel
theorem dL_law_373 : decode cL_law 373 = .ok (.invokevirtual 44, 3) := by decide +kernel
theorem dL_law_376 : decode cL_law 376 = .ok (.if_icmp .eq 1015, 3) := by decide +kernel
theorem dL_law_517 : decode cL_law 517 = .ok (.aload_n 1, 1) := by decide +kernel
theorem dL_law_518 : decode cL_law 518 = .ok (.aload_n 0, 1) := by decide +kernel
theorem dL_law_519 : decode cL_law 519 = .ok (.iload 4, 2) := by decide +kernel
theorem dL_law_521 : decode cL_law 521 = .ok (.iconst 1, 1) := by decide +kernel
theorem dL_law_522 : decode cL_law 522 = .ok (.iadd, 1) := by decide +kernel
theorem dL_law_523 : decode cL_law 523 = .ok (.iaload, 1) := by decide +kernel
theorem dL_law_524 : decode cL_law 524 = .ok (.invokevirtual 57, 3) := by decide +kernel
theorem dL_law_527 : decode cL_law 527 = .ok (.aload_n 2, 1) := by decide +kernel
theorem dL_law_528 : decode cL_law 528 = .ok (.aload_n 0, 1) := by decide +kernel
theorem dL_law_529 : decode cL_law 529 = .ok (.iload 4, 2) := by decide +kernel
theorem dL_law_531 : decode cL_law 531 = .ok (.iconst 1, 1) := by decide +kernel
theorem dL_law_532 : decode cL_law 532 = .ok (.iadd, 1) := by decide +kernel
theorem dL_law_533 : decode cL_law 533 = .ok (.iaload, 1) := by decide +kernel
theorem dL_law_534 : decode cL_law 534 = .ok (.invokevirtual 61, 3) := by decide +kernel
theorem dL_law_537 : decode cL_law 537 = .ok (.if_icmp .eq 854, 3) := by decide +kernel
theorem dL_law_542 : decode cL_law 542 = .ok (.aload_n 1, 1) := by decide +kernel
theorem dL_law_543 : decode cL_law 543 = .ok (.aload_n 0, 1) := by decide +kernel
theorem dL_law_544 : decode cL_law 544 = .ok (.iload 4, 2) := by decide +kernel
theorem dL_law_546 : decode cL_law 546 = .ok (.iconst 1, 1) := by decide +kernel
theorem dL_law_547 : decode cL_law 547 = .ok (.iadd, 1) := by decide +kernel
theorem dL_law_548 : decode cL_law 548 = .ok (.iaload, 1) := by decide +kernel
theorem dL_law_549 : decode cL_law 549 = .ok (.invokevirtual 62, 3) := by decide +kernel
theorem dL_law_552 : decode cL_law 552 = .ok (.aload_n 2, 1) := by decide +kernel
theorem dL_law_553 : decode cL_law 553 = .ok (.aload_n 0, 1) := by decide +kernel
theorem dL_law_554 : decode cL_law 554 = .ok (.iload 4, 2) := by decide +kernel
theorem dL_law_556 : decode cL_law 556 = .ok (.iconst 1, 1) := by decide +kernel
theorem dL_law_557 : decode cL_law 557 = .ok (.iadd, 1) := by decide +kernel
theorem dL_law_558 : decode cL_law 558 = .ok (.iaload, 1) := by decide +kernel
theorem dL_law_559 : decode cL_law 559 = .ok (.invokevirtual 65, 3) := by decide +kernel
theorem dL_law_562 : decode cL_law 562 = .ok (.if_icmp .eq 829, 3) := by decide +kernel
theorem dL_law_567 : decode cL_law 567 = .ok (.aload_n 1, 1) := by decide +kernel
theorem dL_law_568 : decode cL_law 568 = .ok (.aload_n 0, 1) := by decide +kernel
theorem dL_law_569 : decode cL_law 569 = .ok (.iload 4, 2) := by decide +kernel
theorem dL_law_571 : decode cL_law 571 = .ok (.iconst 1, 1) := by decide +kernel
theorem dL_law_572 : decode cL_law 572 = .ok (.iadd, 1) := by decide +kernel
theorem dL_law_573 : decode cL_law 573 = .ok (.iaload, 1) := by decide +kernel
theorem dL_law_574 : decode cL_law 574 = .ok (.invokevirtual 66, 3) := by decide +kernel
theorem dL_law_577 : decode cL_law 577 = .ok (.aload_n 2, 1) := by decide +kernel
theorem dL_law_578 : decode cL_law 578 = .ok (.aload_n 0, 1) := by decide +kernel
theorem dL_law_579 : decode cL_law 579 = .ok (.iload 4, 2) := by decide +kernel
theorem dL_law_581 : decode cL_law 581 = .ok (.iconst 1, 1) := by decide +kernel
theorem dL_law_582 : decode cL_law 582 = .ok (.iadd, 1) := by decide +kernel
theorem dL_law_583 : decode cL_law 583 = .ok (.iaload, 1) := by decide +kernel
theorem dL_law_584 : decode cL_law 584 = .ok (.invokevirtual 69, 3) := by decide +kernel
theorem dL_law_587 : decode cL_law 587 = .ok (.if_icmp .eq 804, 3) := by decide +kernel
theorem dL_law_592 : decode cL_law 592 = .ok (.aload_n 1, 1) := by decide +kernel
theorem dL_law_593 : decode cL_law 593 = .ok (.aload_n 0, 1) := by decide +kernel
theorem dL_law_594 : decode cL_law 594 = .ok (.iload 4, 2) := by decide +kernel
theorem dL_law_596 : decode cL_law 596 = .ok (.iconst 1, 1) := by decide +kernel
theorem dL_law_597 : decode cL_law 597 = .ok (.iadd, 1) := by decide +kernel
theorem dL_law_598 : decode cL_law 598 = .ok (.iaload, 1) := by decide +kernel
theorem dL_law_599 : decode cL_law 599 = .ok (.aload_n 0, 1) := by decide +kernel
theorem dL_law_600 : decode cL_law 600 = .ok (.iload 4, 2) := by decide +kernel
theorem dL_law_602 : decode cL_law 602 = .ok (.iconst 2, 1) := by decide +kernel
theorem dL_law_603 : decode cL_law 603 = .ok (.iadd, 1) := by decide +kernel
theorem dL_law_604 : decode cL_law 604 = .ok (.iaload, 1) := by decide +kernel
theorem dL_law_605 : decode cL_law 605 = .ok (.invokevirtual 70, 3) := by decide +kernel
theorem dL_law_608 : decode cL_law 608 = .ok (.aload_n 2, 1) := by decide +kernel
theorem dL_law_609 : decode cL_law 609 = .ok (.aload_n 0, 1) := by decide +kernel
theorem dL_law_610 : decode cL_law 610 = .ok (.iload 4, 2) := by decide +kernel
theorem dL_law_612 : decode cL_law 612 = .ok (.iconst 1, 1) := by decide +kernel
theorem dL_law_613 : decode cL_law 613 = .ok (.iadd, 1) := by decide +kernel
theorem dL_law_614 : decode cL_law 614 = .ok (.iaload, 1) := by decide +kernel
theorem dL_law_615 : decode cL_law 615 = .ok (.aload_n 0, 1) := by decide +kernel
theorem dL_law_616 : decode cL_law 616 = .ok (.iload 4, 2) := by decide +kernel
theorem dL_law_618 : decode cL_law 618 = .ok (.iconst 2, 1) := by decide +kernel
theorem dL_law_619 : decode cL_law 619 = .ok (.iadd, 1) := by decide +kernel
theorem dL_law_620 : decode cL_law 620 = .ok (.iaload, 1) := by decide +kernel
theorem dL_law_621 : decode cL_law 621 = .ok (.invokevirtual 73, 3) := by decide +kernel
theorem dL_law_624 : decode cL_law 624 = .ok (.if_icmp .eq 767, 3) := by decide +kernel
theorem dL_law_629 : decode cL_law 629 = .ok (.aload_n 1, 1) := by decide +kernel
theorem dL_law_630 : decode cL_law 630 = .ok (.aload_n 0, 1) := by decide +kernel
theorem dL_law_631 : decode cL_law 631 = .ok (.iload 4, 2) := by decide +kernel
theorem dL_law_633 : decode cL_law 633 = .ok (.iconst 1, 1) := by decide +kernel
theorem dL_law_634 : decode cL_law 634 = .ok (.iadd, 1) := by decide +kernel
theorem dL_law_635 : decode cL_law 635 = .ok (.iaload, 1) := by decide +kernel
theorem dL_law_636 : decode cL_law 636 = .ok (.invokevirtual 74, 3) := by decide +kernel
theorem dL_law_639 : decode cL_law 639 = .ok (.aload_n 2, 1) := by decide +kernel
theorem dL_law_640 : decode cL_law 640 = .ok (.aload_n 0, 1) := by decide +kernel
theorem dL_law_641 : decode cL_law 641 = .ok (.iload 4, 2) := by decide +kernel
theorem dL_law_643 : decode cL_law 643 = .ok (.iconst 1, 1) := by decide +kernel
theorem dL_law_644 : decode cL_law 644 = .ok (.iadd, 1) := by decide +kernel
theorem dL_law_645 : decode cL_law 645 = .ok (.iaload, 1) := by decide +kernel
theorem dL_law_646 : decode cL_law 646 = .ok (.invokevirtual 77, 3) := by decide +kernel
theorem dL_law_649 : decode cL_law 649 = .ok (.if_icmp .eq 742, 3) := by decide +kernel
theorem dL_law_654 : decode cL_law 654 = .ok (.aload_n 1, 1) := by decide +kernel
theorem dL_law_655 : decode cL_law 655 = .ok (.aload_n 0, 1) := by decide +kernel
theorem dL_law_656 : decode cL_law 656 = .ok (.iload 4, 2) := by decide +kernel
theorem dL_law_658 : decode cL_law 658 = .ok (.iconst 1, 1) := by decide +kernel
theorem dL_law_659 : decode cL_law 659 = .ok (.iadd, 1) := by decide +kernel
theorem dL_law_660 : decode cL_law 660 = .ok (.iaload, 1) := by decide +kernel
theorem dL_law_661 : decode cL_law 661 = .ok (.aload_n 0, 1) := by decide +kernel
theorem dL_law_662 : decode cL_law 662 = .ok (.iload 4, 2) := by decide +kernel
theorem dL_law_664 : decode cL_law 664 = .ok (.iconst 2, 1) := by decide +kernel
theorem dL_law_665 : decode cL_law 665 = .ok (.iadd, 1) := by decide +kernel
theorem dL_law_666 : decode cL_law 666 = .ok (.iaload, 1) := by decide +kernel
theorem dL_law_667 : decode cL_law 667 = .ok (.invokevirtual 78, 3) := by decide +kernel
theorem dL_law_670 : decode cL_law 670 = .ok (.aload_n 2, 1) := by decide +kernel
theorem dL_law_671 : decode cL_law 671 = .ok (.aload_n 0, 1) := by decide +kernel
theorem dL_law_672 : decode cL_law 672 = .ok (.iload 4, 2) := by decide +kernel
theorem dL_law_674 : decode cL_law 674 = .ok (.iconst 1, 1) := by decide +kernel
theorem dL_law_675 : decode cL_law 675 = .ok (.iadd, 1) := by decide +kernel
theorem dL_law_676 : decode cL_law 676 = .ok (.iaload, 1) := by decide +kernel
theorem dL_law_677 : decode cL_law 677 = .ok (.aload_n 0, 1) := by decide +kernel
theorem dL_law_678 : decode cL_law 678 = .ok (.iload 4, 2) := by decide +kernel
theorem dL_law_680 : decode cL_law 680 = .ok (.iconst 2, 1) := by decide +kernel
theorem dL_law_681 : decode cL_law 681 = .ok (.iadd, 1) := by decide +kernel
theorem dL_law_682 : decode cL_law 682 = .ok (.iaload, 1) := by decide +kernel
theorem dL_law_683 : decode cL_law 683 = .ok (.invokevirtual 81, 3) := by decide +kernel
theorem dL_law_686 : decode cL_law 686 = .ok (.if_icmp .eq 705, 3) := by decide +kernel
theorem dL_law_691 : decode cL_law 691 = .ok (.aload_n 1, 1) := by decide +kernel
theorem dL_law_692 : decode cL_law 692 = .ok (.aload_n 0, 1) := by decide +kernel
theorem dL_law_693 : decode cL_law 693 = .ok (.iload 4, 2) := by decide +kernel
theorem dL_law_695 : decode cL_law 695 = .ok (.iconst 1, 1) := by decide +kernel
theorem dL_law_696 : decode cL_law 696 = .ok (.iadd, 1) := by decide +kernel
theorem dL_law_697 : decode cL_law 697 = .ok (.iaload, 1) := by decide +kernel
theorem dL_law_698 : decode cL_law 698 = .ok (.aload_n 0, 1) := by decide +kernel
theorem dL_law_699 : decode cL_law 699 = .ok (.iload 4, 2) := by decide +kernel
theorem dL_law_701 : decode cL_law 701 = .ok (.iconst 2, 1) := by decide +kernel
theorem dL_law_702 : decode cL_law 702 = .ok (.iadd, 1) := by decide +kernel
theorem dL_law_703 : decode cL_law 703 = .ok (.iaload, 1) := by decide +kernel
theorem dL_law_704 : decode cL_law 704 = .ok (.invokevirtual 82, 3) := by decide +kernel
theorem dL_law_707 : decode cL_law 707 = .ok (.aload_n 2, 1) := by decide +kernel
theorem dL_law_708 : decode cL_law 708 = .ok (.aload_n 0, 1) := by decide +kernel
theorem dL_law_709 : decode cL_law 709 = .ok (.iload 4, 2) := by decide +kernel
theorem dL_law_711 : decode cL_law 711 = .ok (.iconst 1, 1) := by decide +kernel
theorem dL_law_712 : decode cL_law 712 = .ok (.iadd, 1) := by decide +kernel
theorem dL_law_713 : decode cL_law 713 = .ok (.iaload, 1) := by decide +kernel
theorem dL_law_714 : decode cL_law 714 = .ok (.aload_n 0, 1) := by decide +kernel
theorem dL_law_715 : decode cL_law 715 = .ok (.iload 4, 2) := by decide +kernel
theorem dL_law_717 : decode cL_law 717 = .ok (.iconst 2, 1) := by decide +kernel
theorem dL_law_718 : decode cL_law 718 = .ok (.iadd, 1) := by decide +kernel
theorem dL_law_719 : decode cL_law 719 = .ok (.iaload, 1) := by decide +kernel
theorem dL_law_720 : decode cL_law 720 = .ok (.invokevirtual 85, 3) := by decide +kernel
theorem dL_law_723 : decode cL_law 723 = .ok (.if_icmp .eq 668, 3) := by decide +kernel
theorem dL_law_728 : decode cL_law 728 = .ok (.aload_n 1, 1) := by decide +kernel
theorem dL_law_729 : decode cL_law 729 = .ok (.aload_n 0, 1) := by decide +kernel
theorem dL_law_730 : decode cL_law 730 = .ok (.iload 4, 2) := by decide +kernel
theorem dL_law_732 : decode cL_law 732 = .ok (.iconst 1, 1) := by decide +kernel
theorem dL_law_733 : decode cL_law 733 = .ok (.iadd, 1) := by decide +kernel
theorem dL_law_734 : decode cL_law 734 = .ok (.iaload, 1) := by decide +kernel
theorem dL_law_735 : decode cL_law 735 = .ok (.invokevirtual 86, 3) := by decide +kernel
theorem dL_law_738 : decode cL_law 738 = .ok (.aload_n 2, 1) := by decide +kernel
theorem dL_law_739 : decode cL_law 739 = .ok (.aload_n 0, 1) := by decide +kernel
theorem dL_law_740 : decode cL_law 740 = .ok (.iload 4, 2) := by decide +kernel
theorem dL_law_742 : decode cL_law 742 = .ok (.iconst 1, 1) := by decide +kernel
theorem dL_law_743 : decode cL_law 743 = .ok (.iadd, 1) := by decide +kernel
theorem dL_law_744 : decode cL_law 744 = .ok (.iaload, 1) := by decide +kernel
theorem dL_law_745 : decode cL_law 745 = .ok (.invokevirtual 89, 3) := by decide +kernel
theorem dL_law_748 : decode cL_law 748 = .ok (.if_icmp .eq 643, 3) := by decide +kernel
theorem dL_law_753 : decode cL_law 753 = .ok (.aload_n 1, 1) := by decide +kernel
theorem dL_law_754 : decode cL_law 754 = .ok (.aload_n 0, 1) := by decide +kernel
theorem dL_law_755 : decode cL_law 755 = .ok (.iload 4, 2) := by decide +kernel
theorem dL_law_757 : decode cL_law 757 = .ok (.iconst 1, 1) := by decide +kernel
theorem dL_law_758 : decode cL_law 758 = .ok (.iadd, 1) := by decide +kernel
theorem dL_law_759 : decode cL_law 759 = .ok (.iaload, 1) := by decide +kernel
theorem dL_law_760 : decode cL_law 760 = .ok (.aload_n 0, 1) := by decide +kernel
theorem dL_law_761 : decode cL_law 761 = .ok (.iload 4, 2) := by decide +kernel
theorem dL_law_763 : decode cL_law 763 = .ok (.iconst 2, 1) := by decide +kernel
theorem dL_law_764 : decode cL_law 764 = .ok (.iadd, 1) := by decide +kernel
theorem dL_law_765 : decode cL_law 765 = .ok (.iaload, 1) := by decide +kernel
theorem dL_law_766 : decode cL_law 766 = .ok (.invokevirtual 90, 3) := by decide +kernel
theorem dL_law_769 : decode cL_law 769 = .ok (.aload_n 2, 1) := by decide +kernel
theorem dL_law_770 : decode cL_law 770 = .ok (.aload_n 0, 1) := by decide +kernel
theorem dL_law_771 : decode cL_law 771 = .ok (.iload 4, 2) := by decide +kernel
theorem dL_law_773 : decode cL_law 773 = .ok (.iconst 1, 1) := by decide +kernel
theorem dL_law_774 : decode cL_law 774 = .ok (.iadd, 1) := by decide +kernel
theorem dL_law_775 : decode cL_law 775 = .ok (.iaload, 1) := by decide +kernel
theorem dL_law_776 : decode cL_law 776 = .ok (.aload_n 0, 1) := by decide +kernel
theorem dL_law_777 : decode cL_law 777 = .ok (.iload 4, 2) := by decide +kernel
theorem dL_law_779 : decode cL_law 779 = .ok (.iconst 2, 1) := by decide +kernel
theorem dL_law_780 : decode cL_law 780 = .ok (.iadd, 1) := by decide +kernel
theorem dL_law_781 : decode cL_law 781 = .ok (.iaload, 1) := by decide +kernel
theorem dL_law_782 : decode cL_law 782 = .ok (.invokevirtual 93, 3) := by decide +kernel
theorem dL_law_785 : decode cL_law 785 = .ok (.if_icmp .eq 606, 3) := by decide +kernel
theorem dL_law_790 : decode cL_law 790 = .ok (.aload_n 1, 1) := by decide +kernel
theorem dL_law_791 : decode cL_law 791 = .ok (.aload_n 0, 1) := by decide +kernel
theorem dL_law_792 : decode cL_law 792 = .ok (.iload 4, 2) := by decide +kernel
theorem dL_law_794 : decode cL_law 794 = .ok (.iconst 1, 1) := by decide +kernel
theorem dL_law_795 : decode cL_law 795 = .ok (.iadd, 1) := by decide +kernel
theorem dL_law_796 : decode cL_law 796 = .ok (.iaload, 1) := by decide +kernel
theorem dL_law_797 : decode cL_law 797 = .ok (.invokevirtual 94, 3) := by decide +kernel
theorem dL_law_800 : decode cL_law 800 = .ok (.aload_n 2, 1) := by decide +kernel
theorem dL_law_801 : decode cL_law 801 = .ok (.aload_n 0, 1) := by decide +kernel
theorem dL_law_802 : decode cL_law 802 = .ok (.iload 4, 2) := by decide +kernel
theorem dL_law_804 : decode cL_law 804 = .ok (.iconst 1, 1) := by decide +kernel
theorem dL_law_805 : decode cL_law 805 = .ok (.iadd, 1) := by decide +kernel
theorem dL_law_806 : decode cL_law 806 = .ok (.iaload, 1) := by decide +kernel
theorem dL_law_807 : decode cL_law 807 = .ok (.invokevirtual 97, 3) := by decide +kernel
theorem dL_law_810 : decode cL_law 810 = .ok (.if_icmp .eq 581, 3) := by decide +kernel
theorem dL_law_815 : decode cL_law 815 = .ok (.aload_n 1, 1) := by decide +kernel
theorem dL_law_816 : decode cL_law 816 = .ok (.invokevirtual 98, 3) := by decide +kernel
theorem dL_law_819 : decode cL_law 819 = .ok (.aload_n 2, 1) := by decide +kernel
theorem dL_law_820 : decode cL_law 820 = .ok (.invokevirtual 101, 3) := by decide +kernel
theorem dL_law_823 : decode cL_law 823 = .ok (.if_icmp .eq 568, 3) := by decide +kernel
theorem dL_law_828 : decode cL_law 828 = .ok (.aload_n 1, 1) := by decide +kernel
theorem dL_law_829 : decode cL_law 829 = .ok (.aload_n 0, 1) := by decide +kernel
theorem dL_law_830 : decode cL_law 830 = .ok (.iload 4, 2) := by decide +kernel
theorem dL_law_832 : decode cL_law 832 = .ok (.iconst 1, 1) := by decide +kernel
theorem dL_law_833 : decode cL_law 833 = .ok (.iadd, 1) := by decide +kernel
theorem dL_law_834 : decode cL_law 834 = .ok (.iaload, 1) := by decide +kernel
theorem dL_law_835 : decode cL_law 835 = .ok (.aload_n 0, 1) := by decide +kernel
theorem dL_law_836 : decode cL_law 836 = .ok (.iload 4, 2) := by decide +kernel
theorem dL_law_838 : decode cL_law 838 = .ok (.iconst 2, 1) := by decide +kernel
theorem dL_law_839 : decode cL_law 839 = .ok (.iadd, 1) := by decide +kernel
theorem dL_law_840 : decode cL_law 840 = .ok (.iaload, 1) := by decide +kernel
theorem dL_law_841 : decode cL_law 841 = .ok (.invokevirtual 102, 3) := by decide +kernel
theorem dL_law_844 : decode cL_law 844 = .ok (.aload_n 2, 1) := by decide +kernel
theorem dL_law_845 : decode cL_law 845 = .ok (.aload_n 0, 1) := by decide +kernel
theorem dL_law_846 : decode cL_law 846 = .ok (.iload 4, 2) := by decide +kernel
theorem dL_law_848 : decode cL_law 848 = .ok (.iconst 1, 1) := by decide +kernel
theorem dL_law_849 : decode cL_law 849 = .ok (.iadd, 1) := by decide +kernel
theorem dL_law_850 : decode cL_law 850 = .ok (.iaload, 1) := by decide +kernel
theorem dL_law_851 : decode cL_law 851 = .ok (.aload_n 0, 1) := by decide +kernel
theorem dL_law_852 : decode cL_law 852 = .ok (.iload 4, 2) := by decide +kernel
theorem dL_law_854 : decode cL_law 854 = .ok (.iconst 2, 1) := by decide +kernel
theorem dL_law_855 : decode cL_law 855 = .ok (.iadd, 1) := by decide +kernel
theorem dL_law_856 : decode cL_law 856 = .ok (.iaload, 1) := by decide +kernel
theorem dL_law_857 : decode cL_law 857 = .ok (.invokevirtual 105, 3) := by decide +kernel
theorem dL_law_860 : decode cL_law 860 = .ok (.if_icmp .eq 531, 3) := by decide +kernel
theorem dL_law_865 : decode cL_law 865 = .ok (.aload_n 1, 1) := by decide +kernel
theorem dL_law_866 : decode cL_law 866 = .ok (.aload_n 0, 1) := by decide +kernel
theorem dL_law_867 : decode cL_law 867 = .ok (.iload 4, 2) := by decide +kernel
theorem dL_law_869 : decode cL_law 869 = .ok (.iconst 1, 1) := by decide +kernel
theorem dL_law_870 : decode cL_law 870 = .ok (.iadd, 1) := by decide +kernel
theorem dL_law_871 : decode cL_law 871 = .ok (.iaload, 1) := by decide +kernel
theorem dL_law_872 : decode cL_law 872 = .ok (.aload_n 0, 1) := by decide +kernel
theorem dL_law_873 : decode cL_law 873 = .ok (.iload 4, 2) := by decide +kernel
theorem dL_law_875 : decode cL_law 875 = .ok (.iconst 2, 1) := by decide +kernel
theorem dL_law_876 : decode cL_law 876 = .ok (.iadd, 1) := by decide +kernel
theorem dL_law_877 : decode cL_law 877 = .ok (.iaload, 1) := by decide +kernel
theorem dL_law_878 : decode cL_law 878 = .ok (.aload_n 0, 1) := by decide +kernel
theorem dL_law_879 : decode cL_law 879 = .ok (.iload 4, 2) := by decide +kernel
theorem dL_law_881 : decode cL_law 881 = .ok (.iconst 3, 1) := by decide +kernel
theorem dL_law_882 : decode cL_law 882 = .ok (.iadd, 1) := by decide +kernel
theorem dL_law_883 : decode cL_law 883 = .ok (.iaload, 1) := by decide +kernel
theorem dL_law_884 : decode cL_law 884 = .ok (.invokevirtual 106, 3) := by decide +kernel
theorem dL_law_887 : decode cL_law 887 = .ok (.aload_n 2, 1) := by decide +kernel
theorem dL_law_888 : decode cL_law 888 = .ok (.aload_n 0, 1) := by decide +kernel
theorem dL_law_889 : decode cL_law 889 = .ok (.iload 4, 2) := by decide +kernel
theorem dL_law_891 : decode cL_law 891 = .ok (.iconst 1, 1) := by decide +kernel
theorem dL_law_892 : decode cL_law 892 = .ok (.iadd, 1) := by decide +kernel
theorem dL_law_893 : decode cL_law 893 = .ok (.iaload, 1) := by decide +kernel
theorem dL_law_894 : decode cL_law 894 = .ok (.aload_n 0, 1) := by decide +kernel
theorem dL_law_895 : decode cL_law 895 = .ok (.iload 4, 2) := by decide +kernel
theorem dL_law_897 : decode cL_law 897 = .ok (.iconst 2, 1) := by decide +kernel
theorem dL_law_898 : decode cL_law 898 = .ok (.iadd, 1) := by decide +kernel
theorem dL_law_899 : decode cL_law 899 = .ok (.iaload, 1) := by decide +kernel
theorem dL_law_900 : decode cL_law 900 = .ok (.aload_n 0, 1) := by decide +kernel
theorem dL_law_901 : decode cL_law 901 = .ok (.iload 4, 2) := by decide +kernel
theorem dL_law_903 : decode cL_law 903 = .ok (.iconst 3, 1) := by decide +kernel
theorem dL_law_904 : decode cL_law 904 = .ok (.iadd, 1) := by decide +kernel
theorem dL_law_905 : decode cL_law 905 = .ok (.iaload, 1) := by decide +kernel
theorem dL_law_906 : decode cL_law 906 = .ok (.invokevirtual 110, 3) := by decide +kernel
theorem dL_law_909 : decode cL_law 909 = .ok (.if_icmp .eq 482, 3) := by decide +kernel
theorem dL_law_914 : decode cL_law 914 = .ok (.aload_n 1, 1) := by decide +kernel
theorem dL_law_915 : decode cL_law 915 = .ok (.invokevirtual 111, 3) := by decide +kernel
theorem dL_law_918 : decode cL_law 918 = .ok (.aload_n 2, 1) := by decide +kernel
theorem dL_law_919 : decode cL_law 919 = .ok (.invokevirtual 114, 3) := by decide +kernel
theorem dL_law_922 : decode cL_law 922 = .ok (.if_icmp .eq 469, 3) := by decide +kernel
theorem dL_law_927 : decode cL_law 927 = .ok (.aload_n 1, 1) := by decide +kernel
theorem dL_law_928 : decode cL_law 928 = .ok (.invokevirtual 115, 3) := by decide +kernel
theorem dL_law_931 : decode cL_law 931 = .ok (.aload_n 2, 1) := by decide +kernel
theorem dL_law_932 : decode cL_law 932 = .ok (.invokevirtual 118, 3) := by decide +kernel
theorem dL_law_935 : decode cL_law 935 = .ok (.if_icmp .eq 456, 3) := by decide +kernel
theorem dL_law_940 : decode cL_law 940 = .ok (.aload_n 1, 1) := by decide +kernel
theorem dL_law_941 : decode cL_law 941 = .ok (.invokevirtual 119, 3) := by decide +kernel
theorem dL_law_944 : decode cL_law 944 = .ok (.aload_n 2, 1) := by decide +kernel
theorem dL_law_945 : decode cL_law 945 = .ok (.invokevirtual 122, 3) := by decide +kernel
theorem dL_law_948 : decode cL_law 948 = .ok (.if_icmp .eq 443, 3) := by decide +kernel
theorem dL_law_953 : decode cL_law 953 = .ok (.aload_n 1, 1) := by decide +kernel
theorem dL_law_954 : decode cL_law 954 = .ok (.invokevirtual 123, 3) := by decide +kernel
theorem dL_law_957 : decode cL_law 957 = .ok (.aload_n 2, 1) := by decide +kernel
theorem dL_law_958 : decode cL_law 958 = .ok (.invokevirtual 126, 3) := by decide +kernel
theorem dL_law_961 : decode cL_law 961 = .ok (.if_icmp .eq 430, 3) := by decide +kernel
theorem dL_law_966 : decode cL_law 966 = .ok (.aload_n 1, 1) := by decide +kernel
theorem dL_law_967 : decode cL_law 967 = .ok (.aload_n 0, 1) := by decide +kernel
theorem dL_law_968 : decode cL_law 968 = .ok (.iload 4, 2) := by decide +kernel
theorem dL_law_970 : decode cL_law 970 = .ok (.iconst 1, 1) := by decide +kernel
theorem dL_law_971 : decode cL_law 971 = .ok (.iadd, 1) := by decide +kernel
theorem dL_law_972 : decode cL_law 972 = .ok (.iaload, 1) := by decide +kernel
theorem dL_law_973 : decode cL_law 973 = .ok (.invokevirtual 127, 3) := by decide +kernel
theorem dL_law_976 : decode cL_law 976 = .ok (.aload_n 2, 1) := by decide +kernel
theorem dL_law_977 : decode cL_law 977 = .ok (.aload_n 0, 1) := by decide +kernel
theorem dL_law_978 : decode cL_law 978 = .ok (.iload 4, 2) := by decide +kernel
theorem dL_law_980 : decode cL_law 980 = .ok (.iconst 1, 1) := by decide +kernel
theorem dL_law_981 : decode cL_law 981 = .ok (.iadd, 1) := by decide +kernel
theorem dL_law_982 : decode cL_law 982 = .ok (.iaload, 1) := by decide +kernel
theorem dL_law_983 : decode cL_law 983 = .ok (.invokevirtual 130, 3) := by decide +kernel
theorem dL_law_986 : decode cL_law 986 = .ok (.if_icmp .eq 405, 3) := by decide +kernel
theorem dL_law_991 : decode cL_law 991 = .ok (.aload_n 1, 1) := by decide +kernel
theorem dL_law_992 : decode cL_law 992 = .ok (.invokevirtual 131, 3) := by decide +kernel
theorem dL_law_995 : decode cL_law 995 = .ok (.aload_n 2, 1) := by decide +kernel
theorem dL_law_996 : decode cL_law 996 = .ok (.invokevirtual 134, 3) := by decide +kernel
theorem dL_law_999 : decode cL_law 999 = .ok (.if_icmp .eq 392, 3) := by decide +kernel
theorem dL_law_1004 : decode cL_law 1004 = .ok (.aload_n 1, 1) := by decide +kernel
theorem dL_law_1005 : decode cL_law 1005 = .ok (.aload_n 0, 1) := by decide +kernel
theorem dL_law_1006 : decode cL_law 1006 = .ok (.iload 4, 2) := by decide +kernel
theorem dL_law_1008 : decode cL_law 1008 = .ok (.iconst 1, 1) := by decide +kernel
theorem dL_law_1009 : decode cL_law 1009 = .ok (.iadd, 1) := by decide +kernel
theorem dL_law_1010 : decode cL_law 1010 = .ok (.iaload, 1) := by decide +kernel
theorem dL_law_1011 : decode cL_law 1011 = .ok (.invokevirtual 135, 3) := by decide +kernel
theorem dL_law_1014 : decode cL_law 1014 = .ok (.aload_n 2, 1) := by decide +kernel
theorem dL_law_1015 : decode cL_law 1015 = .ok (.aload_n 0, 1) := by decide +kernel
theorem dL_law_1016 : decode cL_law 1016 = .ok (.iload 4, 2) := by decide +kernel
theorem dL_law_1018 : decode cL_law 1018 = .ok (.iconst 1, 1) := by decide +kernel
theorem dL_law_1019 : decode cL_law 1019 = .ok (.iadd, 1) := by decide +kernel
theorem dL_law_1020 : decode cL_law 1020 = .ok (.iaload, 1) := by decide +kernel
theorem dL_law_1021 : decode cL_law 1021 = .ok (.invokevirtual 138, 3) := by decide +kernel
theorem dL_law_1024 : decode cL_law 1024 = .ok (.if_icmp .eq 367, 3) := by decide +kernel
theorem dL_law_1029 : decode cL_law 1029 = .ok (.aload_n 1, 1) := by decide +kernel
theorem dL_law_1030 : decode cL_law 1030 = .ok (.invokevirtual 139, 3) := by decide +kernel
theorem dL_law_1033 : decode cL_law 1033 = .ok (.aload_n 2, 1) := by decide +kernel
theorem dL_law_1034 : decode cL_law 1034 = .ok (.invokevirtual 142, 3) := by decide +kernel
theorem dL_law_1037 : decode cL_law 1037 = .ok (.if_icmp .eq 354, 3) := by decide +kernel
theorem dL_law_1042 : decode cL_law 1042 = .ok (.aload_n 1, 1) := by decide +kernel
theorem dL_law_1043 : decode cL_law 1043 = .ok (.aload_n 0, 1) := by decide +kernel
theorem dL_law_1044 : decode cL_law 1044 = .ok (.iload 4, 2) := by decide +kernel
theorem dL_law_1046 : decode cL_law 1046 = .ok (.iconst 1, 1) := by decide +kernel
theorem dL_law_1047 : decode cL_law 1047 = .ok (.iadd, 1) := by decide +kernel
theorem dL_law_1048 : decode cL_law 1048 = .ok (.iaload, 1) := by decide +kernel
theorem dL_law_1049 : decode cL_law 1049 = .ok (.invokevirtual 143, 3) := by decide +kernel
theorem dL_law_1052 : decode cL_law 1052 = .ok (.aload_n 2, 1) := by decide +kernel
theorem dL_law_1053 : decode cL_law 1053 = .ok (.aload_n 0, 1) := by decide +kernel
theorem dL_law_1054 : decode cL_law 1054 = .ok (.iload 4, 2) := by decide +kernel
theorem dL_law_1056 : decode cL_law 1056 = .ok (.iconst 1, 1) := by decide +kernel
theorem dL_law_1057 : decode cL_law 1057 = .ok (.iadd, 1) := by decide +kernel
theorem dL_law_1058 : decode cL_law 1058 = .ok (.iaload, 1) := by decide +kernel
theorem dL_law_1059 : decode cL_law 1059 = .ok (.invokevirtual 146, 3) := by decide +kernel
theorem dL_law_1062 : decode cL_law 1062 = .ok (.if_icmp .eq 329, 3) := by decide +kernel
theorem dL_law_1067 : decode cL_law 1067 = .ok (.aload_n 1, 1) := by decide +kernel
theorem dL_law_1068 : decode cL_law 1068 = .ok (.invokevirtual 147, 3) := by decide +kernel
theorem dL_law_1071 : decode cL_law 1071 = .ok (.aload_n 2, 1) := by decide +kernel
theorem dL_law_1072 : decode cL_law 1072 = .ok (.invokevirtual 150, 3) := by decide +kernel
theorem dL_law_1075 : decode cL_law 1075 = .ok (.if_icmp .eq 316, 3) := by decide +kernel
theorem dL_law_1080 : decode cL_law 1080 = .ok (.aload_n 1, 1) := by decide +kernel
theorem dL_law_1081 : decode cL_law 1081 = .ok (.aload_n 0, 1) := by decide +kernel
theorem dL_law_1082 : decode cL_law 1082 = .ok (.iload 4, 2) := by decide +kernel
theorem dL_law_1084 : decode cL_law 1084 = .ok (.iconst 1, 1) := by decide +kernel
theorem dL_law_1085 : decode cL_law 1085 = .ok (.iadd, 1) := by decide +kernel
theorem dL_law_1086 : decode cL_law 1086 = .ok (.iaload, 1) := by decide +kernel
theorem dL_law_1087 : decode cL_law 1087 = .ok (.invokevirtual 151, 3) := by decide +kernel
theorem dL_law_1090 : decode cL_law 1090 = .ok (.aload_n 2, 1) := by decide +kernel
theorem dL_law_1091 : decode cL_law 1091 = .ok (.aload_n 0, 1) := by decide +kernel
theorem dL_law_1092 : decode cL_law 1092 = .ok (.iload 4, 2) := by decide +kernel
theorem dL_law_1094 : decode cL_law 1094 = .ok (.iconst 1, 1) := by decide +kernel
theorem dL_law_1095 : decode cL_law 1095 = .ok (.iadd, 1) := by decide +kernel
theorem dL_law_1096 : decode cL_law 1096 = .ok (.iaload, 1) := by decide +kernel
theorem dL_law_1097 : decode cL_law 1097 = .ok (.invokevirtual 154, 3) := by decide +kernel
theorem dL_law_1100 : decode cL_law 1100 = .ok (.if_icmp .eq 291, 3) := by decide +kernel
theorem dL_law_1105 : decode cL_law 1105 = .ok (.aload_n 1, 1) := by decide +kernel
theorem dL_law_1106 : decode cL_law 1106 = .ok (.aload_n 0, 1) := by decide +kernel
theorem dL_law_1107 : decode cL_law 1107 = .ok (.iload 4, 2) := by decide +kernel
theorem dL_law_1109 : decode cL_law 1109 = .ok (.iconst 1, 1) := by decide +kernel
theorem dL_law_1110 : decode cL_law 1110 = .ok (.iadd, 1) := by decide +kernel
theorem dL_law_1111 : decode cL_law 1111 = .ok (.iaload, 1) := by decide +kernel
theorem dL_law_1112 : decode cL_law 1112 = .ok (.invokevirtual 155, 3) := by decide +kernel
theorem dL_law_1115 : decode cL_law 1115 = .ok (.aload_n 2, 1) := by decide +kernel
theorem dL_law_1116 : decode cL_law 1116 = .ok (.aload_n 0, 1) := by decide +kernel
theorem dL_law_1117 : decode cL_law 1117 = .ok (.iload 4, 2) := by decide +kernel
theorem dL_law_1119 : decode cL_law 1119 = .ok (.iconst 1, 1) := by decide +kernel
theorem dL_law_1120 : decode cL_law 1120 = .ok (.iadd, 1) := by decide +kernel
theorem dL_law_1121 : decode cL_law 1121 = .ok (.iaload, 1) := by decide +kernel
theorem dL_law_1122 : decode cL_law 1122 = .ok (.invokevirtual 158, 3) := by decide +kernel
theorem dL_law_1125 : decode cL_law 1125 = .ok (.if_icmp .eq 266, 3) := by decide +kernel
theorem dL_law_1130 : decode cL_law 1130 = .ok (.aload_n 1, 1) := by decide +kernel
theorem dL_law_1131 : decode cL_law 1131 = .ok (.aload_n 0, 1) := by decide +kernel
theorem dL_law_1132 : decode cL_law 1132 = .ok (.iload 4, 2) := by decide +kernel
theorem dL_law_1134 : decode cL_law 1134 = .ok (.iconst 1, 1) := by decide +kernel
theorem dL_law_1135 : decode cL_law 1135 = .ok (.iadd, 1) := by decide +kernel
theorem dL_law_1136 : decode cL_law 1136 = .ok (.iaload, 1) := by decide +kernel
theorem dL_law_1137 : decode cL_law 1137 = .ok (.aload_n 0, 1) := by decide +kernel
theorem dL_law_1138 : decode cL_law 1138 = .ok (.iload 4, 2) := by decide +kernel
theorem dL_law_1140 : decode cL_law 1140 = .ok (.iconst 2, 1) := by decide +kernel
theorem dL_law_1141 : decode cL_law 1141 = .ok (.iadd, 1) := by decide +kernel
theorem dL_law_1142 : decode cL_law 1142 = .ok (.iaload, 1) := by decide +kernel
theorem dL_law_1143 : decode cL_law 1143 = .ok (.invokevirtual 159, 3) := by decide +kernel
theorem dL_law_1146 : decode cL_law 1146 = .ok (.aload_n 2, 1) := by decide +kernel
theorem dL_law_1147 : decode cL_law 1147 = .ok (.aload_n 0, 1) := by decide +kernel
theorem dL_law_1148 : decode cL_law 1148 = .ok (.iload 4, 2) := by decide +kernel
theorem dL_law_1150 : decode cL_law 1150 = .ok (.iconst 1, 1) := by decide +kernel
theorem dL_law_1151 : decode cL_law 1151 = .ok (.iadd, 1) := by decide +kernel
theorem dL_law_1152 : decode cL_law 1152 = .ok (.iaload, 1) := by decide +kernel
theorem dL_law_1153 : decode cL_law 1153 = .ok (.aload_n 0, 1) := by decide +kernel
theorem dL_law_1154 : decode cL_law 1154 = .ok (.iload 4, 2) := by decide +kernel
theorem dL_law_1156 : decode cL_law 1156 = .ok (.iconst 2, 1) := by decide +kernel
theorem dL_law_1157 : decode cL_law 1157 = .ok (.iadd, 1) := by decide +kernel
theorem dL_law_1158 : decode cL_law 1158 = .ok (.iaload, 1) := by decide +kernel
theorem dL_law_1159 : decode cL_law 1159 = .ok (.invokevirtual 162, 3) := by decide +kernel
theorem dL_law_1162 : decode cL_law 1162 = .ok (.if_icmp .eq 229, 3) := by decide +kernel
theorem dL_law_1167 : decode cL_law 1167 = .ok (.aload_n 1, 1) := by decide +kernel
theorem dL_law_1168 : decode cL_law 1168 = .ok (.aload_n 0, 1) := by decide +kernel
theorem dL_law_1169 : decode cL_law 1169 = .ok (.iload 4, 2) := by decide +kernel
theorem dL_law_1171 : decode cL_law 1171 = .ok (.iconst 1, 1) := by decide +kernel
theorem dL_law_1172 : decode cL_law 1172 = .ok (.iadd, 1) := by decide +kernel
theorem dL_law_1173 : decode cL_law 1173 = .ok (.iaload, 1) := by decide +kernel
theorem dL_law_1174 : decode cL_law 1174 = .ok (.aload_n 0, 1) := by decide +kernel
theorem dL_law_1175 : decode cL_law 1175 = .ok (.iload 4, 2) := by decide +kernel
theorem dL_law_1177 : decode cL_law 1177 = .ok (.iconst 2, 1) := by decide +kernel
theorem dL_law_1178 : decode cL_law 1178 = .ok (.iadd, 1) := by decide +kernel
theorem dL_law_1179 : decode cL_law 1179 = .ok (.iaload, 1) := by decide +kernel
theorem dL_law_1180 : decode cL_law 1180 = .ok (.aload_n 0, 1) := by decide +kernel
theorem dL_law_1181 : decode cL_law 1181 = .ok (.iload 4, 2) := by decide +kernel
theorem dL_law_1183 : decode cL_law 1183 = .ok (.iconst 3, 1) := by decide +kernel
theorem dL_law_1184 : decode cL_law 1184 = .ok (.iadd, 1) := by decide +kernel
theorem dL_law_1185 : decode cL_law 1185 = .ok (.iaload, 1) := by decide +kernel
theorem dL_law_1186 : decode cL_law 1186 = .ok (.aload_n 0, 1) := by decide +kernel
theorem dL_law_1187 : decode cL_law 1187 = .ok (.iload 4, 2) := by decide +kernel
theorem dL_law_1189 : decode cL_law 1189 = .ok (.iconst 4, 1) := by decide +kernel
theorem dL_law_1190 : decode cL_law 1190 = .ok (.iadd, 1) := by decide +kernel
theorem dL_law_1191 : decode cL_law 1191 = .ok (.iaload, 1) := by decide +kernel
theorem dL_law_1192 : decode cL_law 1192 = .ok (.invokevirtual 163, 3) := by decide +kernel
theorem dL_law_1195 : decode cL_law 1195 = .ok (.aload_n 2, 1) := by decide +kernel
theorem dL_law_1196 : decode cL_law 1196 = .ok (.aload_n 0, 1) := by decide +kernel
theorem dL_law_1197 : decode cL_law 1197 = .ok (.iload 4, 2) := by decide +kernel
theorem dL_law_1199 : decode cL_law 1199 = .ok (.iconst 1, 1) := by decide +kernel
theorem dL_law_1200 : decode cL_law 1200 = .ok (.iadd, 1) := by decide +kernel
theorem dL_law_1201 : decode cL_law 1201 = .ok (.iaload, 1) := by decide +kernel
theorem dL_law_1202 : decode cL_law 1202 = .ok (.aload_n 0, 1) := by decide +kernel
theorem dL_law_1203 : decode cL_law 1203 = .ok (.iload 4, 2) := by decide +kernel
theorem dL_law_1205 : decode cL_law 1205 = .ok (.iconst 2, 1) := by decide +kernel
theorem dL_law_1206 : decode cL_law 1206 = .ok (.iadd, 1) := by decide +kernel
theorem dL_law_1207 : decode cL_law 1207 = .ok (.iaload, 1) := by decide +kernel
theorem dL_law_1208 : decode cL_law 1208 = .ok (.aload_n 0, 1) := by decide +kernel
theorem dL_law_1209 : decode cL_law 1209 = .ok (.iload 4, 2) := by decide +kernel
theorem dL_law_1211 : decode cL_law 1211 = .ok (.iconst 3, 1) := by decide +kernel
theorem dL_law_1212 : decode cL_law 1212 = .ok (.iadd, 1) := by decide +kernel
theorem dL_law_1213 : decode cL_law 1213 = .ok (.iaload, 1) := by decide +kernel
theorem dL_law_1214 : decode cL_law 1214 = .ok (.aload_n 0, 1) := by decide +kernel
theorem dL_law_1215 : decode cL_law 1215 = .ok (.iload 4, 2) := by decide +kernel
theorem dL_law_1217 : decode cL_law 1217 = .ok (.iconst 4, 1) := by decide +kernel
theorem dL_law_1218 : decode cL_law 1218 = .ok (.iadd, 1) := by decide +kernel
theorem dL_law_1219 : decode cL_law 1219 = .ok (.iaload, 1) := by decide +kernel
theorem dL_law_1220 : decode cL_law 1220 = .ok (.invokevirtual 167, 3) := by decide +kernel
theorem dL_law_1223 : decode cL_law 1223 = .ok (.if_icmp .eq 168, 3) := by decide +kernel
theorem dL_law_1228 : decode cL_law 1228 = .ok (.aload_n 1, 1) := by decide +kernel
theorem dL_law_1229 : decode cL_law 1229 = .ok (.aload_n 0, 1) := by decide +kernel
theorem dL_law_1230 : decode cL_law 1230 = .ok (.iload 4, 2) := by decide +kernel
theorem dL_law_1232 : decode cL_law 1232 = .ok (.iconst 1, 1) := by decide +kernel
theorem dL_law_1233 : decode cL_law 1233 = .ok (.iadd, 1) := by decide +kernel
theorem dL_law_1234 : decode cL_law 1234 = .ok (.iaload, 1) := by decide +kernel
theorem dL_law_1235 : decode cL_law 1235 = .ok (.invokevirtual 168, 3) := by decide +kernel
theorem dL_law_1238 : decode cL_law 1238 = .ok (.aload_n 2, 1) := by decide +kernel
theorem dL_law_1239 : decode cL_law 1239 = .ok (.aload_n 0, 1) := by decide +kernel
theorem dL_law_1240 : decode cL_law 1240 = .ok (.iload 4, 2) := by decide +kernel
theorem dL_law_1242 : decode cL_law 1242 = .ok (.iconst 1, 1) := by decide +kernel
theorem dL_law_1243 : decode cL_law 1243 = .ok (.iadd, 1) := by decide +kernel
theorem dL_law_1244 : decode cL_law 1244 = .ok (.iaload, 1) := by decide +kernel
theorem dL_law_1245 : decode cL_law 1245 = .ok (.invokevirtual 171, 3) := by decide +kernel
theorem dL_law_1248 : decode cL_law 1248 = .ok (.if_icmp .eq 143, 3) := by decide +kernel
theorem dL_law_1253 : decode cL_law 1253 = .ok (.aload_n 1, 1) := by decide +kernel
theorem dL_law_1254 : decode cL_law 1254 = .ok (.aload_n 0, 1) := by decide +kernel
theorem dL_law_1255 : decode cL_law 1255 = .ok (.iload 4, 2) := by decide +kernel
theorem dL_law_1257 : decode cL_law 1257 = .ok (.iconst 1, 1) := by decide +kernel
theorem dL_law_1258 : decode cL_law 1258 = .ok (.iadd, 1) := by decide +kernel
theorem dL_law_1259 : decode cL_law 1259 = .ok (.iaload, 1) := by decide +kernel
theorem dL_law_1260 : decode cL_law 1260 = .ok (.invokevirtual 172, 3) := by decide +kernel
theorem dL_law_1263 : decode cL_law 1263 = .ok (.aload_n 2, 1) := by decide +kernel
theorem dL_law_1264 : decode cL_law 1264 = .ok (.aload_n 0, 1) := by decide +kernel
theorem dL_law_1265 : decode cL_law 1265 = .ok (.iload 4, 2) := by decide +kernel
theorem dL_law_1267 : decode cL_law 1267 = .ok (.iconst 1, 1) := by decide +kernel
theorem dL_law_1268 : decode cL_law 1268 = .ok (.iadd, 1) := by decide +kernel
theorem dL_law_1269 : decode cL_law 1269 = .ok (.iaload, 1) := by decide +kernel
theorem dL_law_1270 : decode cL_law 1270 = .ok (.invokevirtual 175, 3) := by decide +kernel
theorem dL_law_1273 : decode cL_law 1273 = .ok (.if_icmp .eq 118, 3) := by decide +kernel
theorem dL_law_1278 : decode cL_law 1278 = .ok (.aload_n 1, 1) := by decide +kernel
theorem dL_law_1279 : decode cL_law 1279 = .ok (.invokevirtual 176, 3) := by decide +kernel
theorem dL_law_1282 : decode cL_law 1282 = .ok (.aload_n 2, 1) := by decide +kernel
theorem dL_law_1283 : decode cL_law 1283 = .ok (.invokevirtual 179, 3) := by decide +kernel
theorem dL_law_1286 : decode cL_law 1286 = .ok (.if_icmp .eq 105, 3) := by decide +kernel
theorem dL_law_1291 : decode cL_law 1291 = .ok (.aload_n 1, 1) := by decide +kernel
theorem dL_law_1292 : decode cL_law 1292 = .ok (.aload_n 0, 1) := by decide +kernel
theorem dL_law_1293 : decode cL_law 1293 = .ok (.iload 4, 2) := by decide +kernel
theorem dL_law_1295 : decode cL_law 1295 = .ok (.iconst 1, 1) := by decide +kernel
theorem dL_law_1296 : decode cL_law 1296 = .ok (.iadd, 1) := by decide +kernel
theorem dL_law_1297 : decode cL_law 1297 = .ok (.iaload, 1) := by decide +kernel
theorem dL_law_1298 : decode cL_law 1298 = .ok (.invokevirtual 180, 3) := by decide +kernel
theorem dL_law_1301 : decode cL_law 1301 = .ok (.aload_n 2, 1) := by decide +kernel
theorem dL_law_1302 : decode cL_law 1302 = .ok (.aload_n 0, 1) := by decide +kernel
theorem dL_law_1303 : decode cL_law 1303 = .ok (.iload 4, 2) := by decide +kernel
theorem dL_law_1305 : decode cL_law 1305 = .ok (.iconst 1, 1) := by decide +kernel
theorem dL_law_1306 : decode cL_law 1306 = .ok (.iadd, 1) := by decide +kernel
theorem dL_law_1307 : decode cL_law 1307 = .ok (.iaload, 1) := by decide +kernel
theorem dL_law_1308 : decode cL_law 1308 = .ok (.invokevirtual 183, 3) := by decide +kernel
theorem dL_law_1311 : decode cL_law 1311 = .ok (.if_icmp .eq 80, 3) := by decide +kernel
theorem dL_law_1316 : decode cL_law 1316 = .ok (.aload_n 1, 1) := by decide +kernel
theorem dL_law_1317 : decode cL_law 1317 = .ok (.aload_n 0, 1) := by decide +kernel
theorem dL_law_1318 : decode cL_law 1318 = .ok (.iload 4, 2) := by decide +kernel
theorem dL_law_1320 : decode cL_law 1320 = .ok (.iconst 1, 1) := by decide +kernel
theorem dL_law_1321 : decode cL_law 1321 = .ok (.iadd, 1) := by decide +kernel
theorem dL_law_1322 : decode cL_law 1322 = .ok (.iaload, 1) := by decide +kernel
theorem dL_law_1323 : decode cL_law 1323 = .ok (.invokevirtual 184, 3) := by decide +kernel
theorem dL_law_1326 : decode cL_law 1326 = .ok (.aload_n 2, 1) := by decide +kernel
theorem dL_law_1327 : decode cL_law 1327 = .ok (.aload_n 0, 1) := by decide +kernel
theorem dL_law_1328 : decode cL_law 1328 = .ok (.iload 4, 2) := by decide +kernel
theorem dL_law_1330 : decode cL_law 1330 = .ok (.iconst 1, 1) := by decide +kernel
theorem dL_law_1331 : decode cL_law 1331 = .ok (.iadd, 1) := by decide +kernel
theorem dL_law_1332 : decode cL_law 1332 = .ok (.iaload, 1) := by decide +kernel
theorem dL_law_1333 : decode cL_law 1333 = .ok (.invokevirtual 187, 3) := by decide +kernel
theorem dL_law_1336 : decode cL_law 1336 = .ok (.if_icmp .eq 55, 3) := by decide +kernel
theorem dL_law_1341 : decode cL_law 1341 = .ok (.aload_n 1, 1) := by decide +kernel
theorem dL_law_1342 : decode cL_law 1342 = .ok (.aload_n 0, 1) := by decide +kernel
theorem dL_law_1343 : decode cL_law 1343 = .ok (.iload 4, 2) := by decide +kernel
theorem dL_law_1345 : decode cL_law 1345 = .ok (.iconst 1, 1) := by decide +kernel
theorem dL_law_1346 : decode cL_law 1346 = .ok (.iadd, 1) := by decide +kernel
theorem dL_law_1347 : decode cL_law 1347 = .ok (.iaload, 1) := by decide +kernel
theorem dL_law_1348 : decode cL_law 1348 = .ok (.invokevirtual 188, 3) := by decide +kernel
theorem dL_law_1351 : decode cL_law 1351 = .ok (.aload_n 2, 1) := by decide +kernel
theorem dL_law_1352 : decode cL_law 1352 = .ok (.aload_n 0, 1) := by decide +kernel
theorem dL_law_1353 : decode cL_law 1353 = .ok (.iload 4, 2) := by decide +kernel
theorem dL_law_1355 : decode cL_law 1355 = .ok (.iconst 1, 1) := by decide +kernel
theorem dL_law_1356 : decode cL_law 1356 = .ok (.iadd, 1) := by decide +kernel
theorem dL_law_1357 : decode cL_law 1357 = .ok (.iaload, 1) := by decide +kernel
theorem dL_law_1358 : decode cL_law 1358 = .ok (.invokevirtual 191, 3) := by decide +kernel
theorem dL_law_1361 : decode cL_law 1361 = .ok (.if_icmp .eq 30, 3) := by decide +kernel
theorem dL_law_1366 : decode cL_law 1366 = .ok (.aload_n 1, 1) := by decide +kernel
theorem dL_law_1367 : decode cL_law 1367 = .ok (.aload_n 0, 1) := by decide +kernel
theorem dL_law_1368 : decode cL_law 1368 = .ok (.iload 4, 2) := by decide +kernel
theorem dL_law_1370 : decode cL_law 1370 = .ok (.iconst 1, 1) := by decide +kernel
theorem dL_law_1371 : decode cL_law 1371 = .ok (.iadd, 1) := by decide +kernel
theorem dL_law_1372 : decode cL_law 1372 = .ok (.iaload, 1) := by decide +kernel
theorem dL_law_1373 : decode cL_law 1373 = .ok (.invokevirtual 192, 3) := by decide +kernel
theorem dL_law_1376 : decode cL_law 1376 = .ok (.aload_n 2, 1) := by decide +kernel
theorem dL_law_1377 : decode cL_law 1377 = .ok (.aload_n 0, 1) := by decide +kernel
theorem dL_law_1378 : decode cL_law 1378 = .ok (.iload 4, 2) := by decide +kernel
theorem dL_law_1380 : decode cL_law 1380 = .ok (.iconst 1, 1) := by decide +kernel
theorem dL_law_1381 : decode cL_law 1381 = .ok (.iadd, 1) := by decide +kernel
theorem dL_law_1382 : decode cL_law 1382 = .ok (.iaload, 1) := by decide +kernel
theorem dL_law_1383 : decode cL_law 1383 = .ok (.invokevirtual 195, 3) := by decide +kernel
theorem dL_law_1386 : decode cL_law 1386 = .ok (.if_icmp .eq 5, 3) := by decide +kernel
theorem dL_law_1391 : decode cL_law 1391 = .ok (.iinc 4 6, 3) := by decide +kernel
theorem dL_law_1394 : decode cL_law 1394 = .ok (.goto (-1371), 3) := by decide +kernel
theorem dL_law_1397 : decode cL_law 1397 = .ok (.iconst 1, 1) := by decide +kernel
theorem dL_law_1398 : decode cL_law 1398 = .ok (.ireturn, 1) := by decide +kernel
