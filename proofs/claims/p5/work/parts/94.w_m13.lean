theorem tw_0 : Cond.initialized RL ∈ gT := gT_t (List.mem_of_getElem? (i := 0) (by decide +kernel)) (by decide +kernel)
theorem tw_392 : Cond.methodLink RL (22 : Nat) yX9_feed ∈ gT := gT_t (List.mem_of_getElem? (i := 392) (by decide +kernel)) (by decide +kernel)
theorem tw_393 : Cond.instanceMethod yX9_feed ∈ gT := gT_t (List.mem_of_getElem? (i := 393) (by decide +kernel)) (by decide +kernel)
theorem tw_394 : Cond.selects RX9 yX9_feed yX9_feed ∈ gT := gT_t (List.mem_of_getElem? (i := 394) (by decide +kernel)) (by decide +kernel)
theorem tw_395 : Cond.code yX9_feed cX9_feed 6 (some .int) ∈ gT := gT_t (List.mem_of_getElem? (i := 395) (by decide +kernel)) (by decide +kernel)
theorem tw_404 : Cond.methodLink RL (27 : Nat) yX9_end ∈ gT := gT_t (List.mem_of_getElem? (i := 404) (by decide +kernel)) (by decide +kernel)
theorem tw_405 : Cond.instanceMethod yX9_end ∈ gT := gT_t (List.mem_of_getElem? (i := 405) (by decide +kernel)) (by decide +kernel)
theorem tw_406 : Cond.selects RX9 yX9_end yX9_end ∈ gT := gT_t (List.mem_of_getElem? (i := 406) (by decide +kernel)) (by decide +kernel)
theorem tw_407 : Cond.code yX9_end cX9_end 2 (some .boolean) ∈ gT := gT_t (List.mem_of_getElem? (i := 407) (by decide +kernel)) (by decide +kernel)
theorem tw_408 : Cond.methodLink RL (32 : Nat) yX9_post ∈ gT := gT_t (List.mem_of_getElem? (i := 408) (by decide +kernel)) (by decide +kernel)
theorem tw_409 : Cond.instanceMethod yX9_post ∈ gT := gT_t (List.mem_of_getElem? (i := 409) (by decide +kernel)) (by decide +kernel)
theorem tw_410 : Cond.selects RX9 yX9_post yX9_post ∈ gT := gT_t (List.mem_of_getElem? (i := 410) (by decide +kernel)) (by decide +kernel)
theorem tw_411 : Cond.code yX9_post cX9_post 3 (some .int) ∈ gT := gT_t (List.mem_of_getElem? (i := 411) (by decide +kernel)) (by decide +kernel)
theorem tw_532 : Cond.methodLink RL (37 : Nat) yX9_fault ∈ gT := gT_t (List.mem_of_getElem? (i := 532) (by decide +kernel)) (by decide +kernel)
theorem tw_533 : Cond.instanceMethod yX9_fault ∈ gT := gT_t (List.mem_of_getElem? (i := 533) (by decide +kernel)) (by decide +kernel)
theorem tw_534 : Cond.selects RX9 yX9_fault yX9_fault ∈ gT := gT_t (List.mem_of_getElem? (i := 534) (by decide +kernel)) (by decide +kernel)
theorem tw_535 : Cond.code yX9_fault cX9_fault 1 (some .int) ∈ gT := gT_t (List.mem_of_getElem? (i := 535) (by decide +kernel)) (by decide +kernel)
theorem tw_536 : Cond.methodLink RL (41 : Nat) yX9_much ∈ gT := gT_t (List.mem_of_getElem? (i := 536) (by decide +kernel)) (by decide +kernel)
theorem tw_537 : Cond.instanceMethod yX9_much ∈ gT := gT_t (List.mem_of_getElem? (i := 537) (by decide +kernel)) (by decide +kernel)
theorem tw_538 : Cond.selects RX9 yX9_much yX9_much ∈ gT := gT_t (List.mem_of_getElem? (i := 538) (by decide +kernel)) (by decide +kernel)
theorem tw_539 : Cond.code yX9_much cX9_much 3 (some .int) ∈ gT := gT_t (List.mem_of_getElem? (i := 539) (by decide +kernel)) (by decide +kernel)
theorem tw_545 : Cond.methodLink RL (54 : Nat) yX9_need ∈ gT := gT_t (List.mem_of_getElem? (i := 545) (by decide +kernel)) (by decide +kernel)
theorem tw_546 : Cond.instanceMethod yX9_need ∈ gT := gT_t (List.mem_of_getElem? (i := 546) (by decide +kernel)) (by decide +kernel)
theorem tw_547 : Cond.selects RX9 yX9_need yX9_need ∈ gT := gT_t (List.mem_of_getElem? (i := 547) (by decide +kernel)) (by decide +kernel)
theorem tw_548 : Cond.code yX9_need cX9_need 2 (some .int) ∈ gT := gT_t (List.mem_of_getElem? (i := 548) (by decide +kernel)) (by decide +kernel)
theorem tw_549 : Cond.methodLink RL (59 : Nat) yX9_quarrels ∈ gT := gT_t (List.mem_of_getElem? (i := 549) (by decide +kernel)) (by decide +kernel)
theorem tw_550 : Cond.instanceMethod yX9_quarrels ∈ gT := gT_t (List.mem_of_getElem? (i := 550) (by decide +kernel)) (by decide +kernel)
theorem tw_551 : Cond.selects RX9 yX9_quarrels yX9_quarrels ∈ gT := gT_t (List.mem_of_getElem? (i := 551) (by decide +kernel)) (by decide +kernel)
theorem tw_552 : Cond.code yX9_quarrels cX9_quarrels 2 (some .int) ∈ gT := gT_t (List.mem_of_getElem? (i := 552) (by decide +kernel)) (by decide +kernel)
theorem tw_553 : Cond.methodLink RL (63 : Nat) yX9_now ∈ gT := gT_t (List.mem_of_getElem? (i := 553) (by decide +kernel)) (by decide +kernel)
theorem tw_554 : Cond.instanceMethod yX9_now ∈ gT := gT_t (List.mem_of_getElem? (i := 554) (by decide +kernel)) (by decide +kernel)
theorem tw_555 : Cond.selects RX9 yX9_now yX9_now ∈ gT := gT_t (List.mem_of_getElem? (i := 555) (by decide +kernel)) (by decide +kernel)
theorem tw_556 : Cond.code yX9_now cX9_now 2 (some .int) ∈ gT := gT_t (List.mem_of_getElem? (i := 556) (by decide +kernel)) (by decide +kernel)
theorem tw_602 : Cond.methodLink RL (67 : Nat) yX9_sit ∈ gT := gT_t (List.mem_of_getElem? (i := 602) (by decide +kernel)) (by decide +kernel)
theorem tw_603 : Cond.instanceMethod yX9_sit ∈ gT := gT_t (List.mem_of_getElem? (i := 603) (by decide +kernel)) (by decide +kernel)
theorem tw_604 : Cond.selects RX9 yX9_sit yX9_sit ∈ gT := gT_t (List.mem_of_getElem? (i := 604) (by decide +kernel)) (by decide +kernel)
theorem tw_605 : Cond.code yX9_sit cX9_sit 3 (some .int) ∈ gT := gT_t (List.mem_of_getElem? (i := 605) (by decide +kernel)) (by decide +kernel)
theorem tw_624 : Cond.methodLink RL (71 : Nat) yX9_stand ∈ gT := gT_t (List.mem_of_getElem? (i := 624) (by decide +kernel)) (by decide +kernel)
theorem tw_625 : Cond.instanceMethod yX9_stand ∈ gT := gT_t (List.mem_of_getElem? (i := 625) (by decide +kernel)) (by decide +kernel)
theorem tw_626 : Cond.selects RX9 yX9_stand yX9_stand ∈ gT := gT_t (List.mem_of_getElem? (i := 626) (by decide +kernel)) (by decide +kernel)
theorem tw_627 : Cond.code yX9_stand cX9_stand 2 (some .int) ∈ gT := gT_t (List.mem_of_getElem? (i := 627) (by decide +kernel)) (by decide +kernel)
theorem tw_632 : Cond.methodLink RL (75 : Nat) yX9_wish ∈ gT := gT_t (List.mem_of_getElem? (i := 632) (by decide +kernel)) (by decide +kernel)
theorem tw_633 : Cond.instanceMethod yX9_wish ∈ gT := gT_t (List.mem_of_getElem? (i := 633) (by decide +kernel)) (by decide +kernel)
theorem tw_634 : Cond.selects RX9 yX9_wish yX9_wish ∈ gT := gT_t (List.mem_of_getElem? (i := 634) (by decide +kernel)) (by decide +kernel)
theorem tw_635 : Cond.code yX9_wish cX9_wish 3 (some .int) ∈ gT := gT_t (List.mem_of_getElem? (i := 635) (by decide +kernel)) (by decide +kernel)
theorem tw_640 : Cond.methodLink RL (79 : Nat) yX9_guess ∈ gT := gT_t (List.mem_of_getElem? (i := 640) (by decide +kernel)) (by decide +kernel)
theorem tw_641 : Cond.instanceMethod yX9_guess ∈ gT := gT_t (List.mem_of_getElem? (i := 641) (by decide +kernel)) (by decide +kernel)
theorem tw_642 : Cond.selects RX9 yX9_guess yX9_guess ∈ gT := gT_t (List.mem_of_getElem? (i := 642) (by decide +kernel)) (by decide +kernel)
theorem tw_643 : Cond.code yX9_guess cX9_guess 4 (some .int) ∈ gT := gT_t (List.mem_of_getElem? (i := 643) (by decide +kernel)) (by decide +kernel)
theorem tw_657 : Cond.methodLink RL (83 : Nat) yX9_open ∈ gT := gT_t (List.mem_of_getElem? (i := 657) (by decide +kernel)) (by decide +kernel)
theorem tw_658 : Cond.instanceMethod yX9_open ∈ gT := gT_t (List.mem_of_getElem? (i := 658) (by decide +kernel)) (by decide +kernel)
theorem tw_659 : Cond.selects RX9 yX9_open yX9_open ∈ gT := gT_t (List.mem_of_getElem? (i := 659) (by decide +kernel)) (by decide +kernel)
theorem tw_660 : Cond.code yX9_open cX9_open 2 (some .int) ∈ gT := gT_t (List.mem_of_getElem? (i := 660) (by decide +kernel)) (by decide +kernel)
theorem tw_665 : Cond.methodLink RL (87 : Nat) yX9_carry ∈ gT := gT_t (List.mem_of_getElem? (i := 665) (by decide +kernel)) (by decide +kernel)
theorem tw_666 : Cond.instanceMethod yX9_carry ∈ gT := gT_t (List.mem_of_getElem? (i := 666) (by decide +kernel)) (by decide +kernel)
theorem tw_667 : Cond.selects RX9 yX9_carry yX9_carry ∈ gT := gT_t (List.mem_of_getElem? (i := 667) (by decide +kernel)) (by decide +kernel)
theorem tw_668 : Cond.code yX9_carry cX9_carry 3 (some .int) ∈ gT := gT_t (List.mem_of_getElem? (i := 668) (by decide +kernel)) (by decide +kernel)
theorem tw_673 : Cond.methodLink RL (91 : Nat) yX9_days ∈ gT := gT_t (List.mem_of_getElem? (i := 673) (by decide +kernel)) (by decide +kernel)
theorem tw_674 : Cond.instanceMethod yX9_days ∈ gT := gT_t (List.mem_of_getElem? (i := 674) (by decide +kernel)) (by decide +kernel)
theorem tw_675 : Cond.selects RX9 yX9_days yX9_days ∈ gT := gT_t (List.mem_of_getElem? (i := 675) (by decide +kernel)) (by decide +kernel)
theorem tw_676 : Cond.code yX9_days cX9_days 2 (some .int) ∈ gT := gT_t (List.mem_of_getElem? (i := 676) (by decide +kernel)) (by decide +kernel)
theorem tw_713 : Cond.methodLink RL (95 : Nat) yX9_undo ∈ gT := gT_t (List.mem_of_getElem? (i := 713) (by decide +kernel)) (by decide +kernel)
theorem tw_714 : Cond.instanceMethod yX9_undo ∈ gT := gT_t (List.mem_of_getElem? (i := 714) (by decide +kernel)) (by decide +kernel)
theorem tw_715 : Cond.selects RX9 yX9_undo yX9_undo ∈ gT := gT_t (List.mem_of_getElem? (i := 715) (by decide +kernel)) (by decide +kernel)
theorem tw_716 : Cond.code yX9_undo cX9_undo 1 (some .int) ∈ gT := gT_t (List.mem_of_getElem? (i := 716) (by decide +kernel)) (by decide +kernel)
theorem tw_721 : Cond.methodLink RL (99 : Nat) yX9_when ∈ gT := gT_t (List.mem_of_getElem? (i := 721) (by decide +kernel)) (by decide +kernel)
theorem tw_722 : Cond.instanceMethod yX9_when ∈ gT := gT_t (List.mem_of_getElem? (i := 722) (by decide +kernel)) (by decide +kernel)
theorem tw_723 : Cond.selects RX9 yX9_when yX9_when ∈ gT := gT_t (List.mem_of_getElem? (i := 723) (by decide +kernel)) (by decide +kernel)
theorem tw_724 : Cond.code yX9_when cX9_when 5 (some .int) ∈ gT := gT_t (List.mem_of_getElem? (i := 724) (by decide +kernel)) (by decide +kernel)
theorem tw_729 : Cond.methodLink RL (103 : Nat) yX9_sitters ∈ gT := gT_t (List.mem_of_getElem? (i := 729) (by decide +kernel)) (by decide +kernel)
theorem tw_730 : Cond.instanceMethod yX9_sitters ∈ gT := gT_t (List.mem_of_getElem? (i := 730) (by decide +kernel)) (by decide +kernel)
theorem tw_731 : Cond.selects RX9 yX9_sitters yX9_sitters ∈ gT := gT_t (List.mem_of_getElem? (i := 731) (by decide +kernel)) (by decide +kernel)
theorem tw_732 : Cond.code yX9_sitters cX9_sitters 5 (some .int) ∈ gT := gT_t (List.mem_of_getElem? (i := 732) (by decide +kernel)) (by decide +kernel)
theorem tw_748 : Cond.methodLink RL (108 : Nat) yX9_sitting ∈ gT := gT_t (List.mem_of_getElem? (i := 748) (by decide +kernel)) (by decide +kernel)
theorem tw_749 : Cond.instanceMethod yX9_sitting ∈ gT := gT_t (List.mem_of_getElem? (i := 749) (by decide +kernel)) (by decide +kernel)
theorem tw_750 : Cond.selects RX9 yX9_sitting yX9_sitting ∈ gT := gT_t (List.mem_of_getElem? (i := 750) (by decide +kernel)) (by decide +kernel)
theorem tw_751 : Cond.code yX9_sitting cX9_sitting 1 (some .int) ∈ gT := gT_t (List.mem_of_getElem? (i := 751) (by decide +kernel)) (by decide +kernel)
theorem tw_752 : Cond.methodLink RL (112 : Nat) yX9_sat ∈ gT := gT_t (List.mem_of_getElem? (i := 752) (by decide +kernel)) (by decide +kernel)
theorem tw_753 : Cond.instanceMethod yX9_sat ∈ gT := gT_t (List.mem_of_getElem? (i := 753) (by decide +kernel)) (by decide +kernel)
theorem tw_754 : Cond.selects RX9 yX9_sat yX9_sat ∈ gT := gT_t (List.mem_of_getElem? (i := 754) (by decide +kernel)) (by decide +kernel)
theorem tw_755 : Cond.code yX9_sat cX9_sat 6 (some .int) ∈ gT := gT_t (List.mem_of_getElem? (i := 755) (by decide +kernel)) (by decide +kernel)
theorem tw_771 : Cond.methodLink RL (116 : Nat) yX9_surely ∈ gT := gT_t (List.mem_of_getElem? (i := 771) (by decide +kernel)) (by decide +kernel)
theorem tw_772 : Cond.instanceMethod yX9_surely ∈ gT := gT_t (List.mem_of_getElem? (i := 772) (by decide +kernel)) (by decide +kernel)
theorem tw_773 : Cond.selects RX9 yX9_surely yX9_surely ∈ gT := gT_t (List.mem_of_getElem? (i := 773) (by decide +kernel)) (by decide +kernel)
theorem tw_774 : Cond.code yX9_surely cX9_surely 1 (some .int) ∈ gT := gT_t (List.mem_of_getElem? (i := 774) (by decide +kernel)) (by decide +kernel)
theorem tw_775 : Cond.methodLink RL (120 : Nat) yX9_ask ∈ gT := gT_t (List.mem_of_getElem? (i := 775) (by decide +kernel)) (by decide +kernel)
theorem tw_776 : Cond.instanceMethod yX9_ask ∈ gT := gT_t (List.mem_of_getElem? (i := 776) (by decide +kernel)) (by decide +kernel)
theorem tw_777 : Cond.selects RX9 yX9_ask yX9_ask ∈ gT := gT_t (List.mem_of_getElem? (i := 777) (by decide +kernel)) (by decide +kernel)
theorem tw_778 : Cond.code yX9_ask cX9_ask 1 (some .int) ∈ gT := gT_t (List.mem_of_getElem? (i := 778) (by decide +kernel)) (by decide +kernel)
theorem tw_779 : Cond.methodLink RL (124 : Nat) yX9_let ∈ gT := gT_t (List.mem_of_getElem? (i := 779) (by decide +kernel)) (by decide +kernel)
theorem tw_780 : Cond.instanceMethod yX9_let ∈ gT := gT_t (List.mem_of_getElem? (i := 780) (by decide +kernel)) (by decide +kernel)
theorem tw_781 : Cond.selects RX9 yX9_let yX9_let ∈ gT := gT_t (List.mem_of_getElem? (i := 781) (by decide +kernel)) (by decide +kernel)
theorem tw_782 : Cond.code yX9_let cX9_let 3 (some .int) ∈ gT := gT_t (List.mem_of_getElem? (i := 782) (by decide +kernel)) (by decide +kernel)
theorem tw_785 : Cond.methodLink RL (128 : Nat) yX9_rooms ∈ gT := gT_t (List.mem_of_getElem? (i := 785) (by decide +kernel)) (by decide +kernel)
theorem tw_786 : Cond.instanceMethod yX9_rooms ∈ gT := gT_t (List.mem_of_getElem? (i := 786) (by decide +kernel)) (by decide +kernel)
theorem tw_787 : Cond.selects RX9 yX9_rooms yX9_rooms ∈ gT := gT_t (List.mem_of_getElem? (i := 787) (by decide +kernel)) (by decide +kernel)
theorem tw_788 : Cond.code yX9_rooms cX9_rooms 1 (some .int) ∈ gT := gT_t (List.mem_of_getElem? (i := 788) (by decide +kernel)) (by decide +kernel)
theorem tw_803 : Cond.methodLink RL (132 : Nat) yX9_roomOf ∈ gT := gT_t (List.mem_of_getElem? (i := 803) (by decide +kernel)) (by decide +kernel)
theorem tw_804 : Cond.instanceMethod yX9_roomOf ∈ gT := gT_t (List.mem_of_getElem? (i := 804) (by decide +kernel)) (by decide +kernel)
theorem tw_805 : Cond.selects RX9 yX9_roomOf yX9_roomOf ∈ gT := gT_t (List.mem_of_getElem? (i := 805) (by decide +kernel)) (by decide +kernel)
theorem tw_806 : Cond.code yX9_roomOf cX9_roomOf 2 (some .int) ∈ gT := gT_t (List.mem_of_getElem? (i := 806) (by decide +kernel)) (by decide +kernel)
theorem tw_807 : Cond.methodLink RL (136 : Nat) yX9_rest ∈ gT := gT_t (List.mem_of_getElem? (i := 807) (by decide +kernel)) (by decide +kernel)
theorem tw_808 : Cond.instanceMethod yX9_rest ∈ gT := gT_t (List.mem_of_getElem? (i := 808) (by decide +kernel)) (by decide +kernel)
theorem tw_809 : Cond.selects RX9 yX9_rest yX9_rest ∈ gT := gT_t (List.mem_of_getElem? (i := 809) (by decide +kernel)) (by decide +kernel)
theorem tw_810 : Cond.code yX9_rest cX9_rest 2 (some .int) ∈ gT := gT_t (List.mem_of_getElem? (i := 810) (by decide +kernel)) (by decide +kernel)
theorem tw_820 : Cond.methodLink RL (140 : Nat) yX9_rested ∈ gT := gT_t (List.mem_of_getElem? (i := 820) (by decide +kernel)) (by decide +kernel)
theorem tw_821 : Cond.instanceMethod yX9_rested ∈ gT := gT_t (List.mem_of_getElem? (i := 821) (by decide +kernel)) (by decide +kernel)
theorem tw_822 : Cond.selects RX9 yX9_rested yX9_rested ∈ gT := gT_t (List.mem_of_getElem? (i := 822) (by decide +kernel)) (by decide +kernel)
theorem tw_823 : Cond.code yX9_rested cX9_rested 2 (some .int) ∈ gT := gT_t (List.mem_of_getElem? (i := 823) (by decide +kernel)) (by decide +kernel)
theorem tw_824 : Cond.methodLink RL (144 : Nat) yX9_greatest ∈ gT := gT_t (List.mem_of_getElem? (i := 824) (by decide +kernel)) (by decide +kernel)
theorem tw_825 : Cond.instanceMethod yX9_greatest ∈ gT := gT_t (List.mem_of_getElem? (i := 825) (by decide +kernel)) (by decide +kernel)
theorem tw_826 : Cond.selects RX9 yX9_greatest yX9_greatest ∈ gT := gT_t (List.mem_of_getElem? (i := 826) (by decide +kernel)) (by decide +kernel)
theorem tw_827 : Cond.code yX9_greatest cX9_greatest 3 (some .int) ∈ gT := gT_t (List.mem_of_getElem? (i := 827) (by decide +kernel)) (by decide +kernel)
theorem tw_829 : Cond.methodLink RL (148 : Nat) yX9_tag ∈ gT := gT_t (List.mem_of_getElem? (i := 829) (by decide +kernel)) (by decide +kernel)
theorem tw_830 : Cond.instanceMethod yX9_tag ∈ gT := gT_t (List.mem_of_getElem? (i := 830) (by decide +kernel)) (by decide +kernel)
theorem tw_831 : Cond.selects RX9 yX9_tag yX9_tag ∈ gT := gT_t (List.mem_of_getElem? (i := 831) (by decide +kernel)) (by decide +kernel)
theorem tw_832 : Cond.code yX9_tag cX9_tag 3 (some .int) ∈ gT := gT_t (List.mem_of_getElem? (i := 832) (by decide +kernel)) (by decide +kernel)
theorem tw_854 : Cond.methodLink RL (152 : Nat) yX9_byteAt ∈ gT := gT_t (List.mem_of_getElem? (i := 854) (by decide +kernel)) (by decide +kernel)
theorem tw_855 : Cond.instanceMethod yX9_byteAt ∈ gT := gT_t (List.mem_of_getElem? (i := 855) (by decide +kernel)) (by decide +kernel)
theorem tw_856 : Cond.selects RX9 yX9_byteAt yX9_byteAt ∈ gT := gT_t (List.mem_of_getElem? (i := 856) (by decide +kernel)) (by decide +kernel)
theorem tw_857 : Cond.code yX9_byteAt cX9_byteAt 2 (some .int) ∈ gT := gT_t (List.mem_of_getElem? (i := 857) (by decide +kernel)) (by decide +kernel)
theorem tw_858 : Cond.methodLink RL (156 : Nat) yX9_drawn ∈ gT := gT_t (List.mem_of_getElem? (i := 858) (by decide +kernel)) (by decide +kernel)
theorem tw_859 : Cond.instanceMethod yX9_drawn ∈ gT := gT_t (List.mem_of_getElem? (i := 859) (by decide +kernel)) (by decide +kernel)
theorem tw_860 : Cond.selects RX9 yX9_drawn yX9_drawn ∈ gT := gT_t (List.mem_of_getElem? (i := 860) (by decide +kernel)) (by decide +kernel)
theorem tw_861 : Cond.code yX9_drawn cX9_drawn 3 (some .int) ∈ gT := gT_t (List.mem_of_getElem? (i := 861) (by decide +kernel)) (by decide +kernel)
theorem tw_878 : Cond.methodLink RL (160 : Nat) yX9_odds ∈ gT := gT_t (List.mem_of_getElem? (i := 878) (by decide +kernel)) (by decide +kernel)
theorem tw_879 : Cond.instanceMethod yX9_odds ∈ gT := gT_t (List.mem_of_getElem? (i := 879) (by decide +kernel)) (by decide +kernel)
theorem tw_880 : Cond.selects RX9 yX9_odds yX9_odds ∈ gT := gT_t (List.mem_of_getElem? (i := 880) (by decide +kernel)) (by decide +kernel)
theorem tw_881 : Cond.code yX9_odds cX9_odds 7 (some .int) ∈ gT := gT_t (List.mem_of_getElem? (i := 881) (by decide +kernel)) (by decide +kernel)
theorem tw_882 : Cond.methodLink RL (165 : Nat) yX9_book ∈ gT := gT_t (List.mem_of_getElem? (i := 882) (by decide +kernel)) (by decide +kernel)
theorem tw_883 : Cond.instanceMethod yX9_book ∈ gT := gT_t (List.mem_of_getElem? (i := 883) (by decide +kernel)) (by decide +kernel)
theorem tw_884 : Cond.selects RX9 yX9_book yX9_book ∈ gT := gT_t (List.mem_of_getElem? (i := 884) (by decide +kernel)) (by decide +kernel)
theorem tw_885 : Cond.code yX9_book cX9_book 3 (some .int) ∈ gT := gT_t (List.mem_of_getElem? (i := 885) (by decide +kernel)) (by decide +kernel)
theorem tw_937 : Cond.methodLink RL (169 : Nat) yX9_told ∈ gT := gT_t (List.mem_of_getElem? (i := 937) (by decide +kernel)) (by decide +kernel)
theorem tw_938 : Cond.instanceMethod yX9_told ∈ gT := gT_t (List.mem_of_getElem? (i := 938) (by decide +kernel)) (by decide +kernel)
theorem tw_939 : Cond.selects RX9 yX9_told yX9_told ∈ gT := gT_t (List.mem_of_getElem? (i := 939) (by decide +kernel)) (by decide +kernel)
theorem tw_940 : Cond.code yX9_told cX9_told 2 (some .int) ∈ gT := gT_t (List.mem_of_getElem? (i := 940) (by decide +kernel)) (by decide +kernel)
theorem tw_941 : Cond.methodLink RL (173 : Nat) yX9_sentence ∈ gT := gT_t (List.mem_of_getElem? (i := 941) (by decide +kernel)) (by decide +kernel)
theorem tw_942 : Cond.instanceMethod yX9_sentence ∈ gT := gT_t (List.mem_of_getElem? (i := 942) (by decide +kernel)) (by decide +kernel)
theorem tw_943 : Cond.selects RX9 yX9_sentence yX9_sentence ∈ gT := gT_t (List.mem_of_getElem? (i := 943) (by decide +kernel)) (by decide +kernel)
theorem tw_944 : Cond.code yX9_sentence cX9_sentence 2 (some .int) ∈ gT := gT_t (List.mem_of_getElem? (i := 944) (by decide +kernel)) (by decide +kernel)
theorem tw_999 : Cond.methodLink RL (177 : Nat) yX9_said ∈ gT := gT_t (List.mem_of_getElem? (i := 999) (by decide +kernel)) (by decide +kernel)
theorem tw_1000 : Cond.instanceMethod yX9_said ∈ gT := gT_t (List.mem_of_getElem? (i := 1000) (by decide +kernel)) (by decide +kernel)
theorem tw_1001 : Cond.selects RX9 yX9_said yX9_said ∈ gT := gT_t (List.mem_of_getElem? (i := 1001) (by decide +kernel)) (by decide +kernel)
theorem tw_1002 : Cond.code yX9_said cX9_said 5 (some .int) ∈ gT := gT_t (List.mem_of_getElem? (i := 1002) (by decide +kernel)) (by decide +kernel)
theorem tw_1018 : Cond.methodLink RL (181 : Nat) yX9_image ∈ gT := gT_t (List.mem_of_getElem? (i := 1018) (by decide +kernel)) (by decide +kernel)
theorem tw_1019 : Cond.instanceMethod yX9_image ∈ gT := gT_t (List.mem_of_getElem? (i := 1019) (by decide +kernel)) (by decide +kernel)
theorem tw_1020 : Cond.selects RX9 yX9_image yX9_image ∈ gT := gT_t (List.mem_of_getElem? (i := 1020) (by decide +kernel)) (by decide +kernel)
theorem tw_1021 : Cond.code yX9_image cX9_image 2 (some .boolean) ∈ gT := gT_t (List.mem_of_getElem? (i := 1021) (by decide +kernel)) (by decide +kernel)
theorem tw_1027 : Cond.methodLink RL (185 : Nat) yX9_restore ∈ gT := gT_t (List.mem_of_getElem? (i := 1027) (by decide +kernel)) (by decide +kernel)
theorem tw_1028 : Cond.instanceMethod yX9_restore ∈ gT := gT_t (List.mem_of_getElem? (i := 1028) (by decide +kernel)) (by decide +kernel)
theorem tw_1029 : Cond.selects RX9 yX9_restore yX9_restore ∈ gT := gT_t (List.mem_of_getElem? (i := 1029) (by decide +kernel)) (by decide +kernel)
theorem tw_1030 : Cond.code yX9_restore cX9_restore 2 (some .boolean) ∈ gT := gT_t (List.mem_of_getElem? (i := 1030) (by decide +kernel)) (by decide +kernel)
theorem tw_1031 : Cond.methodLink RL (189 : Nat) yX9_count ∈ gT := gT_t (List.mem_of_getElem? (i := 1031) (by decide +kernel)) (by decide +kernel)
theorem tw_1032 : Cond.instanceMethod yX9_count ∈ gT := gT_t (List.mem_of_getElem? (i := 1032) (by decide +kernel)) (by decide +kernel)
theorem tw_1033 : Cond.selects RX9 yX9_count yX9_count ∈ gT := gT_t (List.mem_of_getElem? (i := 1033) (by decide +kernel)) (by decide +kernel)
theorem tw_1034 : Cond.code yX9_count cX9_count 2 (some .int) ∈ gT := gT_t (List.mem_of_getElem? (i := 1034) (by decide +kernel)) (by decide +kernel)
theorem tw_1035 : Cond.methodLink RL (45 : Nat) yL_parcel ∈ gT := gT_t (List.mem_of_getElem? (i := 1035) (by decide +kernel)) (by decide +kernel)
theorem tw_1036 : Cond.static yL_parcel ∈ gT := gT_t (List.mem_of_getElem? (i := 1036) (by decide +kernel)) (by decide +kernel)
theorem tw_1110 : Cond.methodLink RL (51 : Nat) yL_person ∈ gT := gT_t (List.mem_of_getElem? (i := 1110) (by decide +kernel)) (by decide +kernel)
theorem tw_1111 : Cond.static yL_person ∈ gT := gT_t (List.mem_of_getElem? (i := 1111) (by decide +kernel)) (by decide +kernel)
theorem tw_1119 : Cond.methodLink RL (26 : Nat) yX10_feed ∈ gT := gT_t (List.mem_of_getElem? (i := 1119) (by decide +kernel)) (by decide +kernel)
theorem tw_1120 : Cond.instanceMethod yX10_feed ∈ gT := gT_t (List.mem_of_getElem? (i := 1120) (by decide +kernel)) (by decide +kernel)
theorem tw_1121 : Cond.selects RX10 yX10_feed yX10_feed ∈ gT := gT_t (List.mem_of_getElem? (i := 1121) (by decide +kernel)) (by decide +kernel)
theorem tw_1122 : Cond.code yX10_feed cX10_feed 6 (some .int) ∈ gT := gT_t (List.mem_of_getElem? (i := 1122) (by decide +kernel)) (by decide +kernel)
theorem tw_1128 : Cond.methodLink RL (31 : Nat) yX10_end ∈ gT := gT_t (List.mem_of_getElem? (i := 1128) (by decide +kernel)) (by decide +kernel)
theorem tw_1129 : Cond.instanceMethod yX10_end ∈ gT := gT_t (List.mem_of_getElem? (i := 1129) (by decide +kernel)) (by decide +kernel)
theorem tw_1130 : Cond.selects RX10 yX10_end yX10_end ∈ gT := gT_t (List.mem_of_getElem? (i := 1130) (by decide +kernel)) (by decide +kernel)
theorem tw_1131 : Cond.code yX10_end cX10_end 2 (some .boolean) ∈ gT := gT_t (List.mem_of_getElem? (i := 1131) (by decide +kernel)) (by decide +kernel)
theorem tw_1286 : Cond.methodLink RL (36 : Nat) yX10_post ∈ gT := gT_t (List.mem_of_getElem? (i := 1286) (by decide +kernel)) (by decide +kernel)
theorem tw_1287 : Cond.instanceMethod yX10_post ∈ gT := gT_t (List.mem_of_getElem? (i := 1287) (by decide +kernel)) (by decide +kernel)
theorem tw_1288 : Cond.selects RX10 yX10_post yX10_post ∈ gT := gT_t (List.mem_of_getElem? (i := 1288) (by decide +kernel)) (by decide +kernel)
theorem tw_1289 : Cond.code yX10_post cX10_post 3 (some .int) ∈ gT := gT_t (List.mem_of_getElem? (i := 1289) (by decide +kernel)) (by decide +kernel)
theorem tw_1421 : Cond.methodLink RL (40 : Nat) yX10_fault ∈ gT := gT_t (List.mem_of_getElem? (i := 1421) (by decide +kernel)) (by decide +kernel)
theorem tw_1422 : Cond.instanceMethod yX10_fault ∈ gT := gT_t (List.mem_of_getElem? (i := 1422) (by decide +kernel)) (by decide +kernel)
theorem tw_1423 : Cond.selects RX10 yX10_fault yX10_fault ∈ gT := gT_t (List.mem_of_getElem? (i := 1423) (by decide +kernel)) (by decide +kernel)
theorem tw_1424 : Cond.code yX10_fault cX10_fault 1 (some .int) ∈ gT := gT_t (List.mem_of_getElem? (i := 1424) (by decide +kernel)) (by decide +kernel)
theorem tw_1425 : Cond.methodLink RL (44 : Nat) yX10_much ∈ gT := gT_t (List.mem_of_getElem? (i := 1425) (by decide +kernel)) (by decide +kernel)
theorem tw_1426 : Cond.instanceMethod yX10_much ∈ gT := gT_t (List.mem_of_getElem? (i := 1426) (by decide +kernel)) (by decide +kernel)
theorem tw_1427 : Cond.selects RX10 yX10_much yX10_much ∈ gT := gT_t (List.mem_of_getElem? (i := 1427) (by decide +kernel)) (by decide +kernel)
theorem tw_1428 : Cond.code yX10_much cX10_much 3 (some .int) ∈ gT := gT_t (List.mem_of_getElem? (i := 1428) (by decide +kernel)) (by decide +kernel)
theorem tw_1441 : Cond.methodLink RL (50 : Nat) yX10_parcel ∈ gT := gT_t (List.mem_of_getElem? (i := 1441) (by decide +kernel)) (by decide +kernel)
theorem tw_1442 : Cond.instanceMethod yX10_parcel ∈ gT := gT_t (List.mem_of_getElem? (i := 1442) (by decide +kernel)) (by decide +kernel)
theorem tw_1443 : Cond.selects RX10 yX10_parcel yX10_parcel ∈ gT := gT_t (List.mem_of_getElem? (i := 1443) (by decide +kernel)) (by decide +kernel)
theorem tw_1444 : Cond.code yX10_parcel cX10_parcel 3 (some .int) ∈ gT := gT_t (List.mem_of_getElem? (i := 1444) (by decide +kernel)) (by decide +kernel)
theorem tw_1465 : Cond.methodLink RL (53 : Nat) yX10_person ∈ gT := gT_t (List.mem_of_getElem? (i := 1465) (by decide +kernel)) (by decide +kernel)
theorem tw_1466 : Cond.instanceMethod yX10_person ∈ gT := gT_t (List.mem_of_getElem? (i := 1466) (by decide +kernel)) (by decide +kernel)
theorem tw_1467 : Cond.selects RX10 yX10_person yX10_person ∈ gT := gT_t (List.mem_of_getElem? (i := 1467) (by decide +kernel)) (by decide +kernel)
theorem tw_1468 : Cond.code yX10_person cX10_person 3 (some .int) ∈ gT := gT_t (List.mem_of_getElem? (i := 1468) (by decide +kernel)) (by decide +kernel)
theorem tw_1473 : Cond.methodLink RL (58 : Nat) yX10_need ∈ gT := gT_t (List.mem_of_getElem? (i := 1473) (by decide +kernel)) (by decide +kernel)
theorem tw_1474 : Cond.instanceMethod yX10_need ∈ gT := gT_t (List.mem_of_getElem? (i := 1474) (by decide +kernel)) (by decide +kernel)
theorem tw_1475 : Cond.selects RX10 yX10_need yX10_need ∈ gT := gT_t (List.mem_of_getElem? (i := 1475) (by decide +kernel)) (by decide +kernel)
theorem tw_1476 : Cond.code yX10_need cX10_need 2 (some .int) ∈ gT := gT_t (List.mem_of_getElem? (i := 1476) (by decide +kernel)) (by decide +kernel)
theorem tw_1477 : Cond.methodLink RL (62 : Nat) yX10_quarrels ∈ gT := gT_t (List.mem_of_getElem? (i := 1477) (by decide +kernel)) (by decide +kernel)
theorem tw_1478 : Cond.instanceMethod yX10_quarrels ∈ gT := gT_t (List.mem_of_getElem? (i := 1478) (by decide +kernel)) (by decide +kernel)
theorem tw_1479 : Cond.selects RX10 yX10_quarrels yX10_quarrels ∈ gT := gT_t (List.mem_of_getElem? (i := 1479) (by decide +kernel)) (by decide +kernel)
theorem tw_1480 : Cond.code yX10_quarrels cX10_quarrels 2 (some .int) ∈ gT := gT_t (List.mem_of_getElem? (i := 1480) (by decide +kernel)) (by decide +kernel)
theorem tw_1481 : Cond.methodLink RL (66 : Nat) yX10_now ∈ gT := gT_t (List.mem_of_getElem? (i := 1481) (by decide +kernel)) (by decide +kernel)
theorem tw_1482 : Cond.instanceMethod yX10_now ∈ gT := gT_t (List.mem_of_getElem? (i := 1482) (by decide +kernel)) (by decide +kernel)
theorem tw_1483 : Cond.selects RX10 yX10_now yX10_now ∈ gT := gT_t (List.mem_of_getElem? (i := 1483) (by decide +kernel)) (by decide +kernel)
theorem tw_1484 : Cond.code yX10_now cX10_now 4 (some .int) ∈ gT := gT_t (List.mem_of_getElem? (i := 1484) (by decide +kernel)) (by decide +kernel)
theorem tw_1493 : Cond.methodLink RL (70 : Nat) yX10_sit ∈ gT := gT_t (List.mem_of_getElem? (i := 1493) (by decide +kernel)) (by decide +kernel)
theorem tw_1494 : Cond.instanceMethod yX10_sit ∈ gT := gT_t (List.mem_of_getElem? (i := 1494) (by decide +kernel)) (by decide +kernel)
theorem tw_1495 : Cond.selects RX10 yX10_sit yX10_sit ∈ gT := gT_t (List.mem_of_getElem? (i := 1495) (by decide +kernel)) (by decide +kernel)
theorem tw_1496 : Cond.code yX10_sit cX10_sit 3 (some .int) ∈ gT := gT_t (List.mem_of_getElem? (i := 1496) (by decide +kernel)) (by decide +kernel)
theorem tw_1528 : Cond.methodLink RL (74 : Nat) yX10_stand ∈ gT := gT_t (List.mem_of_getElem? (i := 1528) (by decide +kernel)) (by decide +kernel)
theorem tw_1529 : Cond.instanceMethod yX10_stand ∈ gT := gT_t (List.mem_of_getElem? (i := 1529) (by decide +kernel)) (by decide +kernel)
theorem tw_1530 : Cond.selects RX10 yX10_stand yX10_stand ∈ gT := gT_t (List.mem_of_getElem? (i := 1530) (by decide +kernel)) (by decide +kernel)
theorem tw_1531 : Cond.code yX10_stand cX10_stand 2 (some .int) ∈ gT := gT_t (List.mem_of_getElem? (i := 1531) (by decide +kernel)) (by decide +kernel)
theorem tw_1532 : Cond.methodLink RL (78 : Nat) yX10_wish ∈ gT := gT_t (List.mem_of_getElem? (i := 1532) (by decide +kernel)) (by decide +kernel)
theorem tw_1533 : Cond.instanceMethod yX10_wish ∈ gT := gT_t (List.mem_of_getElem? (i := 1533) (by decide +kernel)) (by decide +kernel)
theorem tw_1534 : Cond.selects RX10 yX10_wish yX10_wish ∈ gT := gT_t (List.mem_of_getElem? (i := 1534) (by decide +kernel)) (by decide +kernel)
theorem tw_1535 : Cond.code yX10_wish cX10_wish 3 (some .int) ∈ gT := gT_t (List.mem_of_getElem? (i := 1535) (by decide +kernel)) (by decide +kernel)
theorem tw_1536 : Cond.methodLink RL (82 : Nat) yX10_guess ∈ gT := gT_t (List.mem_of_getElem? (i := 1536) (by decide +kernel)) (by decide +kernel)
theorem tw_1537 : Cond.instanceMethod yX10_guess ∈ gT := gT_t (List.mem_of_getElem? (i := 1537) (by decide +kernel)) (by decide +kernel)
theorem tw_1538 : Cond.selects RX10 yX10_guess yX10_guess ∈ gT := gT_t (List.mem_of_getElem? (i := 1538) (by decide +kernel)) (by decide +kernel)
theorem tw_1539 : Cond.code yX10_guess cX10_guess 5 (some .int) ∈ gT := gT_t (List.mem_of_getElem? (i := 1539) (by decide +kernel)) (by decide +kernel)
theorem tw_1540 : Cond.methodLink RL (86 : Nat) yX10_open ∈ gT := gT_t (List.mem_of_getElem? (i := 1540) (by decide +kernel)) (by decide +kernel)
theorem tw_1541 : Cond.instanceMethod yX10_open ∈ gT := gT_t (List.mem_of_getElem? (i := 1541) (by decide +kernel)) (by decide +kernel)
theorem tw_1542 : Cond.selects RX10 yX10_open yX10_open ∈ gT := gT_t (List.mem_of_getElem? (i := 1542) (by decide +kernel)) (by decide +kernel)
theorem tw_1543 : Cond.code yX10_open cX10_open 2 (some .int) ∈ gT := gT_t (List.mem_of_getElem? (i := 1543) (by decide +kernel)) (by decide +kernel)
theorem tw_1544 : Cond.methodLink RL (90 : Nat) yX10_carry ∈ gT := gT_t (List.mem_of_getElem? (i := 1544) (by decide +kernel)) (by decide +kernel)
theorem tw_1545 : Cond.instanceMethod yX10_carry ∈ gT := gT_t (List.mem_of_getElem? (i := 1545) (by decide +kernel)) (by decide +kernel)
theorem tw_1546 : Cond.selects RX10 yX10_carry yX10_carry ∈ gT := gT_t (List.mem_of_getElem? (i := 1546) (by decide +kernel)) (by decide +kernel)
theorem tw_1547 : Cond.code yX10_carry cX10_carry 3 (some .int) ∈ gT := gT_t (List.mem_of_getElem? (i := 1547) (by decide +kernel)) (by decide +kernel)
theorem tw_1552 : Cond.methodLink RL (98 : Nat) yX10_undo ∈ gT := gT_t (List.mem_of_getElem? (i := 1552) (by decide +kernel)) (by decide +kernel)
theorem tw_1553 : Cond.instanceMethod yX10_undo ∈ gT := gT_t (List.mem_of_getElem? (i := 1553) (by decide +kernel)) (by decide +kernel)
theorem tw_1554 : Cond.selects RX10 yX10_undo yX10_undo ∈ gT := gT_t (List.mem_of_getElem? (i := 1554) (by decide +kernel)) (by decide +kernel)
theorem tw_1555 : Cond.code yX10_undo cX10_undo 2 (some .int) ∈ gT := gT_t (List.mem_of_getElem? (i := 1555) (by decide +kernel)) (by decide +kernel)
theorem tw_1556 : Cond.methodLink RL (94 : Nat) yX10_days ∈ gT := gT_t (List.mem_of_getElem? (i := 1556) (by decide +kernel)) (by decide +kernel)
theorem tw_1557 : Cond.instanceMethod yX10_days ∈ gT := gT_t (List.mem_of_getElem? (i := 1557) (by decide +kernel)) (by decide +kernel)
theorem tw_1558 : Cond.selects RX10 yX10_days yX10_days ∈ gT := gT_t (List.mem_of_getElem? (i := 1558) (by decide +kernel)) (by decide +kernel)
theorem tw_1559 : Cond.code yX10_days cX10_days 2 (some .int) ∈ gT := gT_t (List.mem_of_getElem? (i := 1559) (by decide +kernel)) (by decide +kernel)
theorem tw_1579 : Cond.methodLink RL (102 : Nat) yX10_when ∈ gT := gT_t (List.mem_of_getElem? (i := 1579) (by decide +kernel)) (by decide +kernel)
theorem tw_1580 : Cond.instanceMethod yX10_when ∈ gT := gT_t (List.mem_of_getElem? (i := 1580) (by decide +kernel)) (by decide +kernel)
theorem tw_1581 : Cond.selects RX10 yX10_when yX10_when ∈ gT := gT_t (List.mem_of_getElem? (i := 1581) (by decide +kernel)) (by decide +kernel)
theorem tw_1582 : Cond.code yX10_when cX10_when 4 (some .int) ∈ gT := gT_t (List.mem_of_getElem? (i := 1582) (by decide +kernel)) (by decide +kernel)
theorem tw_1591 : Cond.methodLink RL (107 : Nat) yX10_sitters ∈ gT := gT_t (List.mem_of_getElem? (i := 1591) (by decide +kernel)) (by decide +kernel)
theorem tw_1592 : Cond.instanceMethod yX10_sitters ∈ gT := gT_t (List.mem_of_getElem? (i := 1592) (by decide +kernel)) (by decide +kernel)
theorem tw_1593 : Cond.selects RX10 yX10_sitters yX10_sitters ∈ gT := gT_t (List.mem_of_getElem? (i := 1593) (by decide +kernel)) (by decide +kernel)
theorem tw_1594 : Cond.code yX10_sitters cX10_sitters 7 (some .int) ∈ gT := gT_t (List.mem_of_getElem? (i := 1594) (by decide +kernel)) (by decide +kernel)
theorem tw_1595 : Cond.methodLink RL (111 : Nat) yX10_sitting ∈ gT := gT_t (List.mem_of_getElem? (i := 1595) (by decide +kernel)) (by decide +kernel)
theorem tw_1596 : Cond.instanceMethod yX10_sitting ∈ gT := gT_t (List.mem_of_getElem? (i := 1596) (by decide +kernel)) (by decide +kernel)
theorem tw_1597 : Cond.selects RX10 yX10_sitting yX10_sitting ∈ gT := gT_t (List.mem_of_getElem? (i := 1597) (by decide +kernel)) (by decide +kernel)
theorem tw_1598 : Cond.code yX10_sitting cX10_sitting 1 (some .int) ∈ gT := gT_t (List.mem_of_getElem? (i := 1598) (by decide +kernel)) (by decide +kernel)
theorem tw_1599 : Cond.methodLink RL (115 : Nat) yX10_sat ∈ gT := gT_t (List.mem_of_getElem? (i := 1599) (by decide +kernel)) (by decide +kernel)
theorem tw_1600 : Cond.instanceMethod yX10_sat ∈ gT := gT_t (List.mem_of_getElem? (i := 1600) (by decide +kernel)) (by decide +kernel)
theorem tw_1601 : Cond.selects RX10 yX10_sat yX10_sat ∈ gT := gT_t (List.mem_of_getElem? (i := 1601) (by decide +kernel)) (by decide +kernel)
theorem tw_1602 : Cond.code yX10_sat cX10_sat 6 (some .int) ∈ gT := gT_t (List.mem_of_getElem? (i := 1602) (by decide +kernel)) (by decide +kernel)
theorem tw_1618 : Cond.methodLink RL (119 : Nat) yX10_surely ∈ gT := gT_t (List.mem_of_getElem? (i := 1618) (by decide +kernel)) (by decide +kernel)
theorem tw_1619 : Cond.instanceMethod yX10_surely ∈ gT := gT_t (List.mem_of_getElem? (i := 1619) (by decide +kernel)) (by decide +kernel)
theorem tw_1620 : Cond.selects RX10 yX10_surely yX10_surely ∈ gT := gT_t (List.mem_of_getElem? (i := 1620) (by decide +kernel)) (by decide +kernel)
theorem tw_1621 : Cond.code yX10_surely cX10_surely 1 (some .int) ∈ gT := gT_t (List.mem_of_getElem? (i := 1621) (by decide +kernel)) (by decide +kernel)
theorem tw_1622 : Cond.methodLink RL (123 : Nat) yX10_ask ∈ gT := gT_t (List.mem_of_getElem? (i := 1622) (by decide +kernel)) (by decide +kernel)
theorem tw_1623 : Cond.instanceMethod yX10_ask ∈ gT := gT_t (List.mem_of_getElem? (i := 1623) (by decide +kernel)) (by decide +kernel)
theorem tw_1624 : Cond.selects RX10 yX10_ask yX10_ask ∈ gT := gT_t (List.mem_of_getElem? (i := 1624) (by decide +kernel)) (by decide +kernel)
theorem tw_1625 : Cond.code yX10_ask cX10_ask 1 (some .int) ∈ gT := gT_t (List.mem_of_getElem? (i := 1625) (by decide +kernel)) (by decide +kernel)
theorem tw_1626 : Cond.methodLink RL (127 : Nat) yX10_let ∈ gT := gT_t (List.mem_of_getElem? (i := 1626) (by decide +kernel)) (by decide +kernel)
theorem tw_1627 : Cond.instanceMethod yX10_let ∈ gT := gT_t (List.mem_of_getElem? (i := 1627) (by decide +kernel)) (by decide +kernel)
theorem tw_1628 : Cond.selects RX10 yX10_let yX10_let ∈ gT := gT_t (List.mem_of_getElem? (i := 1628) (by decide +kernel)) (by decide +kernel)
theorem tw_1629 : Cond.code yX10_let cX10_let 3 (some .int) ∈ gT := gT_t (List.mem_of_getElem? (i := 1629) (by decide +kernel)) (by decide +kernel)
theorem tw_1630 : Cond.methodLink RL (131 : Nat) yX10_rooms ∈ gT := gT_t (List.mem_of_getElem? (i := 1630) (by decide +kernel)) (by decide +kernel)
theorem tw_1631 : Cond.instanceMethod yX10_rooms ∈ gT := gT_t (List.mem_of_getElem? (i := 1631) (by decide +kernel)) (by decide +kernel)
theorem tw_1632 : Cond.selects RX10 yX10_rooms yX10_rooms ∈ gT := gT_t (List.mem_of_getElem? (i := 1632) (by decide +kernel)) (by decide +kernel)
theorem tw_1633 : Cond.code yX10_rooms cX10_rooms 3 (some .int) ∈ gT := gT_t (List.mem_of_getElem? (i := 1633) (by decide +kernel)) (by decide +kernel)
theorem tw_1642 : Cond.methodLink RL (135 : Nat) yX10_roomOf ∈ gT := gT_t (List.mem_of_getElem? (i := 1642) (by decide +kernel)) (by decide +kernel)
theorem tw_1643 : Cond.instanceMethod yX10_roomOf ∈ gT := gT_t (List.mem_of_getElem? (i := 1643) (by decide +kernel)) (by decide +kernel)
theorem tw_1644 : Cond.selects RX10 yX10_roomOf yX10_roomOf ∈ gT := gT_t (List.mem_of_getElem? (i := 1644) (by decide +kernel)) (by decide +kernel)
theorem tw_1645 : Cond.code yX10_roomOf cX10_roomOf 2 (some .int) ∈ gT := gT_t (List.mem_of_getElem? (i := 1645) (by decide +kernel)) (by decide +kernel)
theorem tw_1646 : Cond.methodLink RL (139 : Nat) yX10_rest ∈ gT := gT_t (List.mem_of_getElem? (i := 1646) (by decide +kernel)) (by decide +kernel)
theorem tw_1647 : Cond.instanceMethod yX10_rest ∈ gT := gT_t (List.mem_of_getElem? (i := 1647) (by decide +kernel)) (by decide +kernel)
theorem tw_1648 : Cond.selects RX10 yX10_rest yX10_rest ∈ gT := gT_t (List.mem_of_getElem? (i := 1648) (by decide +kernel)) (by decide +kernel)
theorem tw_1649 : Cond.code yX10_rest cX10_rest 4 (some .int) ∈ gT := gT_t (List.mem_of_getElem? (i := 1649) (by decide +kernel)) (by decide +kernel)
theorem tw_1658 : Cond.methodLink RL (143 : Nat) yX10_rested ∈ gT := gT_t (List.mem_of_getElem? (i := 1658) (by decide +kernel)) (by decide +kernel)
theorem tw_1659 : Cond.instanceMethod yX10_rested ∈ gT := gT_t (List.mem_of_getElem? (i := 1659) (by decide +kernel)) (by decide +kernel)
theorem tw_1660 : Cond.selects RX10 yX10_rested yX10_rested ∈ gT := gT_t (List.mem_of_getElem? (i := 1660) (by decide +kernel)) (by decide +kernel)
theorem tw_1661 : Cond.code yX10_rested cX10_rested 2 (some .int) ∈ gT := gT_t (List.mem_of_getElem? (i := 1661) (by decide +kernel)) (by decide +kernel)
theorem tw_1662 : Cond.methodLink RL (147 : Nat) yX10_greatest ∈ gT := gT_t (List.mem_of_getElem? (i := 1662) (by decide +kernel)) (by decide +kernel)
theorem tw_1663 : Cond.instanceMethod yX10_greatest ∈ gT := gT_t (List.mem_of_getElem? (i := 1663) (by decide +kernel)) (by decide +kernel)
theorem tw_1664 : Cond.selects RX10 yX10_greatest yX10_greatest ∈ gT := gT_t (List.mem_of_getElem? (i := 1664) (by decide +kernel)) (by decide +kernel)
theorem tw_1665 : Cond.code yX10_greatest cX10_greatest 3 (some .int) ∈ gT := gT_t (List.mem_of_getElem? (i := 1665) (by decide +kernel)) (by decide +kernel)
theorem tw_1666 : Cond.methodLink RL (151 : Nat) yX10_tag ∈ gT := gT_t (List.mem_of_getElem? (i := 1666) (by decide +kernel)) (by decide +kernel)
theorem tw_1667 : Cond.instanceMethod yX10_tag ∈ gT := gT_t (List.mem_of_getElem? (i := 1667) (by decide +kernel)) (by decide +kernel)
theorem tw_1668 : Cond.selects RX10 yX10_tag yX10_tag ∈ gT := gT_t (List.mem_of_getElem? (i := 1668) (by decide +kernel)) (by decide +kernel)
theorem tw_1669 : Cond.code yX10_tag cX10_tag 2 (some .int) ∈ gT := gT_t (List.mem_of_getElem? (i := 1669) (by decide +kernel)) (by decide +kernel)
theorem tw_1682 : Cond.methodLink RL (155 : Nat) yX10_byteAt ∈ gT := gT_t (List.mem_of_getElem? (i := 1682) (by decide +kernel)) (by decide +kernel)
theorem tw_1683 : Cond.instanceMethod yX10_byteAt ∈ gT := gT_t (List.mem_of_getElem? (i := 1683) (by decide +kernel)) (by decide +kernel)
theorem tw_1684 : Cond.selects RX10 yX10_byteAt yX10_byteAt ∈ gT := gT_t (List.mem_of_getElem? (i := 1684) (by decide +kernel)) (by decide +kernel)
theorem tw_1685 : Cond.code yX10_byteAt cX10_byteAt 2 (some .int) ∈ gT := gT_t (List.mem_of_getElem? (i := 1685) (by decide +kernel)) (by decide +kernel)
theorem tw_1686 : Cond.methodLink RL (159 : Nat) yX10_drawn ∈ gT := gT_t (List.mem_of_getElem? (i := 1686) (by decide +kernel)) (by decide +kernel)
theorem tw_1687 : Cond.instanceMethod yX10_drawn ∈ gT := gT_t (List.mem_of_getElem? (i := 1687) (by decide +kernel)) (by decide +kernel)
theorem tw_1688 : Cond.selects RX10 yX10_drawn yX10_drawn ∈ gT := gT_t (List.mem_of_getElem? (i := 1688) (by decide +kernel)) (by decide +kernel)
theorem tw_1689 : Cond.code yX10_drawn cX10_drawn 3 (some .int) ∈ gT := gT_t (List.mem_of_getElem? (i := 1689) (by decide +kernel)) (by decide +kernel)
theorem tw_1703 : Cond.methodLink RL (164 : Nat) yX10_odds ∈ gT := gT_t (List.mem_of_getElem? (i := 1703) (by decide +kernel)) (by decide +kernel)
theorem tw_1704 : Cond.instanceMethod yX10_odds ∈ gT := gT_t (List.mem_of_getElem? (i := 1704) (by decide +kernel)) (by decide +kernel)
theorem tw_1705 : Cond.selects RX10 yX10_odds yX10_odds ∈ gT := gT_t (List.mem_of_getElem? (i := 1705) (by decide +kernel)) (by decide +kernel)
theorem tw_1706 : Cond.code yX10_odds cX10_odds 7 (some .int) ∈ gT := gT_t (List.mem_of_getElem? (i := 1706) (by decide +kernel)) (by decide +kernel)
theorem tw_1707 : Cond.methodLink RL (168 : Nat) yX10_book ∈ gT := gT_t (List.mem_of_getElem? (i := 1707) (by decide +kernel)) (by decide +kernel)
theorem tw_1708 : Cond.instanceMethod yX10_book ∈ gT := gT_t (List.mem_of_getElem? (i := 1708) (by decide +kernel)) (by decide +kernel)
theorem tw_1709 : Cond.selects RX10 yX10_book yX10_book ∈ gT := gT_t (List.mem_of_getElem? (i := 1709) (by decide +kernel)) (by decide +kernel)
theorem tw_1710 : Cond.code yX10_book cX10_book 4 (some .int) ∈ gT := gT_t (List.mem_of_getElem? (i := 1710) (by decide +kernel)) (by decide +kernel)
theorem tw_1743 : Cond.methodLink RL (172 : Nat) yX10_told ∈ gT := gT_t (List.mem_of_getElem? (i := 1743) (by decide +kernel)) (by decide +kernel)
theorem tw_1744 : Cond.instanceMethod yX10_told ∈ gT := gT_t (List.mem_of_getElem? (i := 1744) (by decide +kernel)) (by decide +kernel)
theorem tw_1745 : Cond.selects RX10 yX10_told yX10_told ∈ gT := gT_t (List.mem_of_getElem? (i := 1745) (by decide +kernel)) (by decide +kernel)
theorem tw_1746 : Cond.code yX10_told cX10_told 2 (some .int) ∈ gT := gT_t (List.mem_of_getElem? (i := 1746) (by decide +kernel)) (by decide +kernel)
theorem tw_1747 : Cond.methodLink RL (176 : Nat) yX10_sentence ∈ gT := gT_t (List.mem_of_getElem? (i := 1747) (by decide +kernel)) (by decide +kernel)
theorem tw_1748 : Cond.instanceMethod yX10_sentence ∈ gT := gT_t (List.mem_of_getElem? (i := 1748) (by decide +kernel)) (by decide +kernel)
theorem tw_1749 : Cond.selects RX10 yX10_sentence yX10_sentence ∈ gT := gT_t (List.mem_of_getElem? (i := 1749) (by decide +kernel)) (by decide +kernel)
theorem tw_1750 : Cond.code yX10_sentence cX10_sentence 2 (some .int) ∈ gT := gT_t (List.mem_of_getElem? (i := 1750) (by decide +kernel)) (by decide +kernel)
theorem tw_1783 : Cond.methodLink RL (180 : Nat) yX10_said ∈ gT := gT_t (List.mem_of_getElem? (i := 1783) (by decide +kernel)) (by decide +kernel)
theorem tw_1784 : Cond.instanceMethod yX10_said ∈ gT := gT_t (List.mem_of_getElem? (i := 1784) (by decide +kernel)) (by decide +kernel)
theorem tw_1785 : Cond.selects RX10 yX10_said yX10_said ∈ gT := gT_t (List.mem_of_getElem? (i := 1785) (by decide +kernel)) (by decide +kernel)
theorem tw_1786 : Cond.code yX10_said cX10_said 4 (some .int) ∈ gT := gT_t (List.mem_of_getElem? (i := 1786) (by decide +kernel)) (by decide +kernel)
theorem tw_1791 : Cond.methodLink RL (184 : Nat) yX10_image ∈ gT := gT_t (List.mem_of_getElem? (i := 1791) (by decide +kernel)) (by decide +kernel)
theorem tw_1792 : Cond.instanceMethod yX10_image ∈ gT := gT_t (List.mem_of_getElem? (i := 1792) (by decide +kernel)) (by decide +kernel)
theorem tw_1793 : Cond.selects RX10 yX10_image yX10_image ∈ gT := gT_t (List.mem_of_getElem? (i := 1793) (by decide +kernel)) (by decide +kernel)
theorem tw_1794 : Cond.code yX10_image cX10_image 3 (some .boolean) ∈ gT := gT_t (List.mem_of_getElem? (i := 1794) (by decide +kernel)) (by decide +kernel)
theorem tw_1795 : Cond.methodLink RL (188 : Nat) yX10_restore ∈ gT := gT_t (List.mem_of_getElem? (i := 1795) (by decide +kernel)) (by decide +kernel)
theorem tw_1796 : Cond.instanceMethod yX10_restore ∈ gT := gT_t (List.mem_of_getElem? (i := 1796) (by decide +kernel)) (by decide +kernel)
theorem tw_1797 : Cond.selects RX10 yX10_restore yX10_restore ∈ gT := gT_t (List.mem_of_getElem? (i := 1797) (by decide +kernel)) (by decide +kernel)
theorem tw_1798 : Cond.code yX10_restore cX10_restore 3 (some .boolean) ∈ gT := gT_t (List.mem_of_getElem? (i := 1798) (by decide +kernel)) (by decide +kernel)
theorem tw_1799 : Cond.methodLink RL (192 : Nat) yX10_count ∈ gT := gT_t (List.mem_of_getElem? (i := 1799) (by decide +kernel)) (by decide +kernel)
theorem tw_1800 : Cond.instanceMethod yX10_count ∈ gT := gT_t (List.mem_of_getElem? (i := 1800) (by decide +kernel)) (by decide +kernel)
theorem tw_1801 : Cond.selects RX10 yX10_count yX10_count ∈ gT := gT_t (List.mem_of_getElem? (i := 1801) (by decide +kernel)) (by decide +kernel)
theorem tw_1802 : Cond.code yX10_count cX10_count 2 (some .int) ∈ gT := gT_t (List.mem_of_getElem? (i := 1802) (by decide +kernel)) (by decide +kernel)
theorem dL_law_220 : decode cL_law 220 = .ok (.aload_n 1, 1) := by decide +kernel
theorem dL_law_221 : decode cL_law 221 = .ok (.aload_n 0, 1) := by decide +kernel
theorem dL_law_222 : decode cL_law 222 = .ok (.iload 4, 2) := by decide +kernel
theorem dL_law_224 : decode cL_law 224 = .ok (.iconst 1, 1) := by decide +kernel
theorem dL_law_225 : decode cL_law 225 = .ok (.iadd, 1) := by decide +kernel
theorem dL_law_226 : decode cL_law 226 = .ok (.iaload, 1) := by decide +kernel
theorem dL_law_227 : decode cL_law 227 = .ok (.aload_n 0, 1) := by decide +kernel
theorem dL_law_228 : decode cL_law 228 = .ok (.iload 4, 2) := by decide +kernel
theorem dL_law_230 : decode cL_law 230 = .ok (.iconst 2, 1) := by decide +kernel
theorem dL_law_231 : decode cL_law 231 = .ok (.iadd, 1) := by decide +kernel
theorem dL_law_232 : decode cL_law 232 = .ok (.iaload, 1) := by decide +kernel
theorem dL_law_233 : decode cL_law 233 = .ok (.aload_n 0, 1) := by decide +kernel
theorem dL_law_234 : decode cL_law 234 = .ok (.iload 4, 2) := by decide +kernel
theorem dL_law_236 : decode cL_law 236 = .ok (.iconst 3, 1) := by decide +kernel
theorem dL_law_237 : decode cL_law 237 = .ok (.iadd, 1) := by decide +kernel
theorem dL_law_238 : decode cL_law 238 = .ok (.iaload, 1) := by decide +kernel
theorem dL_law_239 : decode cL_law 239 = .ok (.aload_n 0, 1) := by decide +kernel
theorem dL_law_240 : decode cL_law 240 = .ok (.iload 4, 2) := by decide +kernel
theorem dL_law_242 : decode cL_law 242 = .ok (.iconst 4, 1) := by decide +kernel
theorem dL_law_243 : decode cL_law 243 = .ok (.iadd, 1) := by decide +kernel
theorem dL_law_244 : decode cL_law 244 = .ok (.iaload, 1) := by decide +kernel
theorem dL_law_245 : decode cL_law 245 = .ok (.aload_n 0, 1) := by decide +kernel
theorem dL_law_246 : decode cL_law 246 = .ok (.iload 4, 2) := by decide +kernel
theorem dL_law_248 : decode cL_law 248 = .ok (.iconst 5, 1) := by decide +kernel
theorem dL_law_249 : decode cL_law 249 = .ok (.iadd, 1) := by decide +kernel
theorem dL_law_250 : decode cL_law 250 = .ok (.iaload, 1) := by decide +kernel
theorem dL_law_251 : decode cL_law 251 = .ok (.invokevirtual 22, 3) := by decide +kernel
theorem dL_law_254 : decode cL_law 254 = .ok (.pop, 1) := by decide +kernel
theorem dL_law_255 : decode cL_law 255 = .ok (.aload_n 2, 1) := by decide +kernel
theorem dL_law_256 : decode cL_law 256 = .ok (.aload_n 0, 1) := by decide +kernel
theorem dL_law_257 : decode cL_law 257 = .ok (.iload 4, 2) := by decide +kernel
theorem dL_law_259 : decode cL_law 259 = .ok (.iconst 1, 1) := by decide +kernel
theorem dL_law_260 : decode cL_law 260 = .ok (.iadd, 1) := by decide +kernel
theorem dL_law_261 : decode cL_law 261 = .ok (.iaload, 1) := by decide +kernel
theorem dL_law_262 : decode cL_law 262 = .ok (.aload_n 0, 1) := by decide +kernel
theorem dL_law_263 : decode cL_law 263 = .ok (.iload 4, 2) := by decide +kernel
theorem dL_law_265 : decode cL_law 265 = .ok (.iconst 2, 1) := by decide +kernel
theorem dL_law_266 : decode cL_law 266 = .ok (.iadd, 1) := by decide +kernel
theorem dL_law_267 : decode cL_law 267 = .ok (.iaload, 1) := by decide +kernel
theorem dL_law_268 : decode cL_law 268 = .ok (.aload_n 0, 1) := by decide +kernel
theorem dL_law_269 : decode cL_law 269 = .ok (.iload 4, 2) := by decide +kernel
theorem dL_law_271 : decode cL_law 271 = .ok (.iconst 3, 1) := by decide +kernel
theorem dL_law_272 : decode cL_law 272 = .ok (.iadd, 1) := by decide +kernel
theorem dL_law_273 : decode cL_law 273 = .ok (.iaload, 1) := by decide +kernel
theorem dL_law_274 : decode cL_law 274 = .ok (.aload_n 0, 1) := by decide +kernel
theorem dL_law_275 : decode cL_law 275 = .ok (.iload 4, 2) := by decide +kernel
theorem dL_law_277 : decode cL_law 277 = .ok (.iconst 4, 1) := by decide +kernel
theorem dL_law_278 : decode cL_law 278 = .ok (.iadd, 1) := by decide +kernel
theorem dL_law_279 : decode cL_law 279 = .ok (.iaload, 1) := by decide +kernel
theorem dL_law_280 : decode cL_law 280 = .ok (.aload_n 0, 1) := by decide +kernel
theorem dL_law_281 : decode cL_law 281 = .ok (.iload 4, 2) := by decide +kernel
theorem dL_law_283 : decode cL_law 283 = .ok (.iconst 5, 1) := by decide +kernel
theorem dL_law_284 : decode cL_law 284 = .ok (.iadd, 1) := by decide +kernel
theorem dL_law_285 : decode cL_law 285 = .ok (.iaload, 1) := by decide +kernel
theorem dL_law_286 : decode cL_law 286 = .ok (.invokevirtual 26, 3) := by decide +kernel
theorem dL_law_289 : decode cL_law 289 = .ok (.pop, 1) := by decide +kernel
theorem dL_law_290 : decode cL_law 290 = .ok (.goto 1045, 3) := by decide +kernel
theorem dL_law_293 : decode cL_law 293 = .ok (.aload_n 1, 1) := by decide +kernel
theorem dL_law_294 : decode cL_law 294 = .ok (.aload_n 0, 1) := by decide +kernel
theorem dL_law_295 : decode cL_law 295 = .ok (.iload 4, 2) := by decide +kernel
theorem dL_law_297 : decode cL_law 297 = .ok (.iconst 1, 1) := by decide +kernel
theorem dL_law_298 : decode cL_law 298 = .ok (.iadd, 1) := by decide +kernel
theorem dL_law_299 : decode cL_law 299 = .ok (.iaload, 1) := by decide +kernel
theorem dL_law_300 : decode cL_law 300 = .ok (.invokevirtual 27, 3) := by decide +kernel
theorem dL_law_303 : decode cL_law 303 = .ok (.pop, 1) := by decide +kernel
theorem dL_law_304 : decode cL_law 304 = .ok (.aload_n 2, 1) := by decide +kernel
theorem dL_law_305 : decode cL_law 305 = .ok (.aload_n 0, 1) := by decide +kernel
theorem dL_law_306 : decode cL_law 306 = .ok (.iload 4, 2) := by decide +kernel
theorem dL_law_308 : decode cL_law 308 = .ok (.iconst 1, 1) := by decide +kernel
theorem dL_law_309 : decode cL_law 309 = .ok (.iadd, 1) := by decide +kernel
theorem dL_law_310 : decode cL_law 310 = .ok (.iaload, 1) := by decide +kernel
theorem dL_law_311 : decode cL_law 311 = .ok (.invokevirtual 31, 3) := by decide +kernel
theorem dL_law_314 : decode cL_law 314 = .ok (.pop, 1) := by decide +kernel
theorem dL_law_315 : decode cL_law 315 = .ok (.goto 1020, 3) := by decide +kernel
theorem dL_law_318 : decode cL_law 318 = .ok (.aload_n 1, 1) := by decide +kernel
theorem dL_law_319 : decode cL_law 319 = .ok (.invokevirtual 32, 3) := by decide +kernel
theorem dL_law_322 : decode cL_law 322 = .ok (.pop, 1) := by decide +kernel
theorem dL_law_323 : decode cL_law 323 = .ok (.aload_n 2, 1) := by decide +kernel
theorem dL_law_324 : decode cL_law 324 = .ok (.invokevirtual 36, 3) := by decide +kernel
theorem dL_law_327 : decode cL_law 327 = .ok (.pop, 1) := by decide +kernel
theorem dL_law_328 : decode cL_law 328 = .ok (.goto 1007, 3) := by decide +kernel
theorem dL_law_331 : decode cL_law 331 = .ok (.aload_n 1, 1) := by decide +kernel
theorem dL_law_332 : decode cL_law 332 = .ok (.invokevirtual 37, 3) := by decide +kernel
theorem dL_law_335 : decode cL_law 335 = .ok (.aload_n 2, 1) := by decide +kernel
theorem dL_law_336 : decode cL_law 336 = .ok (.invokevirtual 40, 3) := by decide +kernel
theorem dL_law_339 : decode cL_law 339 = .ok (.if_icmp .eq 996, 3) := by decide +kernel
theorem dL_law_344 : decode cL_law 344 = .ok (.aload_n 1, 1) := by decide +kernel
theorem dL_law_345 : decode cL_law 345 = .ok (.aload_n 0, 1) := by decide +kernel
theorem dL_law_346 : decode cL_law 346 = .ok (.iload 4, 2) := by decide +kernel
theorem dL_law_348 : decode cL_law 348 = .ok (.iconst 1, 1) := by decide +kernel
theorem dL_law_349 : decode cL_law 349 = .ok (.iadd, 1) := by decide +kernel
theorem dL_law_350 : decode cL_law 350 = .ok (.iaload, 1) := by decide +kernel
theorem dL_law_351 : decode cL_law 351 = .ok (.aload_n 0, 1) := by decide +kernel
theorem dL_law_352 : decode cL_law 352 = .ok (.iload 4, 2) := by decide +kernel
theorem dL_law_354 : decode cL_law 354 = .ok (.iconst 2, 1) := by decide +kernel
theorem dL_law_355 : decode cL_law 355 = .ok (.iadd, 1) := by decide +kernel
theorem dL_law_356 : decode cL_law 356 = .ok (.iaload, 1) := by decide +kernel
theorem dL_law_357 : decode cL_law 357 = .ok (.invokevirtual 41, 3) := by decide +kernel
theorem dL_law_360 : decode cL_law 360 = .ok (.pop, 1) := by decide +kernel
theorem dL_law_361 : decode cL_law 361 = .ok (.aload_n 2, 1) := by decide +kernel
theorem dL_law_362 : decode cL_law 362 = .ok (.aload_n 0, 1) := by decide +kernel
theorem dL_law_363 : decode cL_law 363 = .ok (.iload 4, 2) := by decide +kernel
theorem dL_law_365 : decode cL_law 365 = .ok (.iconst 1, 1) := by decide +kernel
theorem dL_law_366 : decode cL_law 366 = .ok (.iadd, 1) := by decide +kernel
theorem dL_law_367 : decode cL_law 367 = .ok (.iaload, 1) := by decide +kernel
theorem dL_law_368 : decode cL_law 368 = .ok (.aload_n 0, 1) := by decide +kernel
theorem dL_law_369 : decode cL_law 369 = .ok (.iload 4, 2) := by decide +kernel
theorem dL_law_371 : decode cL_law 371 = .ok (.iconst 2, 1) := by decide +kernel
theorem dL_law_372 : decode cL_law 372 = .ok (.iadd, 1) := by decide +kernel
theorem dL_law_373 : decode cL_law 373 = .ok (.iaload, 1) := by decide +kernel
theorem dL_law_374 : decode cL_law 374 = .ok (.invokevirtual 44, 3) := by decide +kernel
theorem dL_law_377 : decode cL_law 377 = .ok (.pop, 1) := by decide +kernel
theorem dL_law_378 : decode cL_law 378 = .ok (.goto 957, 3) := by decide +kernel
theorem dL_law_381 : decode cL_law 381 = .ok (.aload_n 1, 1) := by decide +kernel
theorem dL_law_382 : decode cL_law 382 = .ok (.aload_n 0, 1) := by decide +kernel
theorem dL_law_383 : decode cL_law 383 = .ok (.iload 4, 2) := by decide +kernel
theorem dL_law_385 : decode cL_law 385 = .ok (.iconst 1, 1) := by decide +kernel
theorem dL_law_386 : decode cL_law 386 = .ok (.iadd, 1) := by decide +kernel
theorem dL_law_387 : decode cL_law 387 = .ok (.iaload, 1) := by decide +kernel
theorem dL_law_388 : decode cL_law 388 = .ok (.aload_n 0, 1) := by decide +kernel
theorem dL_law_389 : decode cL_law 389 = .ok (.iload 4, 2) := by decide +kernel
theorem dL_law_391 : decode cL_law 391 = .ok (.iconst 2, 1) := by decide +kernel
theorem dL_law_392 : decode cL_law 392 = .ok (.iadd, 1) := by decide +kernel
theorem dL_law_393 : decode cL_law 393 = .ok (.iaload, 1) := by decide +kernel
theorem dL_law_394 : decode cL_law 394 = .ok (.aload_n 3, 1) := by decide +kernel
theorem dL_law_395 : decode cL_law 395 = .ok (.invokestatic 45, 3) := by decide +kernel
theorem dL_law_398 : decode cL_law 398 = .ok (.istore 5, 2) := by decide +kernel
theorem dL_law_400 : decode cL_law 400 = .ok (.aload_n 2, 1) := by decide +kernel
theorem dL_law_401 : decode cL_law 401 = .ok (.aload_n 0, 1) := by decide +kernel
theorem dL_law_402 : decode cL_law 402 = .ok (.iload 4, 2) := by decide +kernel
theorem dL_law_404 : decode cL_law 404 = .ok (.iconst 1, 1) := by decide +kernel
theorem dL_law_405 : decode cL_law 405 = .ok (.iadd, 1) := by decide +kernel
theorem dL_law_406 : decode cL_law 406 = .ok (.iaload, 1) := by decide +kernel
theorem dL_law_407 : decode cL_law 407 = .ok (.aload_n 0, 1) := by decide +kernel
theorem dL_law_408 : decode cL_law 408 = .ok (.iload 4, 2) := by decide +kernel
theorem dL_law_410 : decode cL_law 410 = .ok (.iconst 2, 1) := by decide +kernel
theorem dL_law_411 : decode cL_law 411 = .ok (.iadd, 1) := by decide +kernel
theorem dL_law_412 : decode cL_law 412 = .ok (.iaload, 1) := by decide +kernel
theorem dL_law_413 : decode cL_law 413 = .ok (.invokevirtual 50, 3) := by decide +kernel
theorem dL_law_416 : decode cL_law 416 = .ok (.istore 6, 2) := by decide +kernel
theorem dL_law_418 : decode cL_law 418 = .ok (.goto 917, 3) := by decide +kernel
theorem dL_law_421 : decode cL_law 421 = .ok (.aload_n 1, 1) := by decide +kernel
theorem dL_law_422 : decode cL_law 422 = .ok (.aload_n 0, 1) := by decide +kernel
theorem dL_law_423 : decode cL_law 423 = .ok (.iload 4, 2) := by decide +kernel
theorem dL_law_425 : decode cL_law 425 = .ok (.iconst 1, 1) := by decide +kernel
theorem dL_law_426 : decode cL_law 426 = .ok (.iadd, 1) := by decide +kernel
theorem dL_law_427 : decode cL_law 427 = .ok (.iaload, 1) := by decide +kernel
theorem dL_law_428 : decode cL_law 428 = .ok (.aload_n 0, 1) := by decide +kernel
theorem dL_law_429 : decode cL_law 429 = .ok (.iload 4, 2) := by decide +kernel
theorem dL_law_431 : decode cL_law 431 = .ok (.iconst 2, 1) := by decide +kernel
theorem dL_law_432 : decode cL_law 432 = .ok (.iadd, 1) := by decide +kernel
theorem dL_law_433 : decode cL_law 433 = .ok (.iaload, 1) := by decide +kernel
theorem dL_law_434 : decode cL_law 434 = .ok (.aload_n 3, 1) := by decide +kernel
theorem dL_law_435 : decode cL_law 435 = .ok (.invokestatic 51, 3) := by decide +kernel
theorem dL_law_438 : decode cL_law 438 = .ok (.istore 5, 2) := by decide +kernel
theorem dL_law_440 : decode cL_law 440 = .ok (.aload_n 2, 1) := by decide +kernel
theorem dL_law_441 : decode cL_law 441 = .ok (.aload_n 0, 1) := by decide +kernel
theorem dL_law_442 : decode cL_law 442 = .ok (.iload 4, 2) := by decide +kernel
theorem dL_law_444 : decode cL_law 444 = .ok (.iconst 1, 1) := by decide +kernel
theorem dL_law_445 : decode cL_law 445 = .ok (.iadd, 1) := by decide +kernel
theorem dL_law_446 : decode cL_law 446 = .ok (.iaload, 1) := by decide +kernel
theorem dL_law_447 : decode cL_law 447 = .ok (.aload_n 0, 1) := by decide +kernel
theorem dL_law_448 : decode cL_law 448 = .ok (.iload 4, 2) := by decide +kernel
theorem dL_law_450 : decode cL_law 450 = .ok (.iconst 2, 1) := by decide +kernel
theorem dL_law_451 : decode cL_law 451 = .ok (.iadd, 1) := by decide +kernel
theorem dL_law_452 : decode cL_law 452 = .ok (.iaload, 1) := by decide +kernel
theorem dL_law_453 : decode cL_law 453 = .ok (.invokevirtual 53, 3) := by decide +kernel
theorem dL_law_456 : decode cL_law 456 = .ok (.istore 6, 2) := by decide +kernel
theorem dL_law_458 : decode cL_law 458 = .ok (.goto 877, 3) := by decide +kernel
theorem dL_law_461 : decode cL_law 461 = .ok (.aload_n 1, 1) := by decide +kernel
theorem dL_law_462 : decode cL_law 462 = .ok (.aload_n 0, 1) := by decide +kernel
theorem dL_law_463 : decode cL_law 463 = .ok (.iload 4, 2) := by decide +kernel
theorem dL_law_465 : decode cL_law 465 = .ok (.iconst 1, 1) := by decide +kernel
theorem dL_law_466 : decode cL_law 466 = .ok (.iadd, 1) := by decide +kernel
theorem dL_law_467 : decode cL_law 467 = .ok (.iaload, 1) := by decide +kernel
theorem dL_law_468 : decode cL_law 468 = .ok (.invokevirtual 54, 3) := by decide +kernel
theorem dL_law_471 : decode cL_law 471 = .ok (.pop, 1) := by decide +kernel
theorem dL_law_472 : decode cL_law 472 = .ok (.aload_n 2, 1) := by decide +kernel
theorem dL_law_473 : decode cL_law 473 = .ok (.aload_n 0, 1) := by decide +kernel
theorem dL_law_474 : decode cL_law 474 = .ok (.iload 4, 2) := by decide +kernel
theorem dL_law_476 : decode cL_law 476 = .ok (.iconst 1, 1) := by decide +kernel
theorem dL_law_477 : decode cL_law 477 = .ok (.iadd, 1) := by decide +kernel
theorem dL_law_478 : decode cL_law 478 = .ok (.iaload, 1) := by decide +kernel
theorem dL_law_479 : decode cL_law 479 = .ok (.invokevirtual 58, 3) := by decide +kernel
theorem dL_law_482 : decode cL_law 482 = .ok (.pop, 1) := by decide +kernel
theorem dL_law_483 : decode cL_law 483 = .ok (.goto 852, 3) := by decide +kernel
theorem dL_law_486 : decode cL_law 486 = .ok (.aload_n 1, 1) := by decide +kernel
theorem dL_law_487 : decode cL_law 487 = .ok (.aload_n 0, 1) := by decide +kernel
theorem dL_law_488 : decode cL_law 488 = .ok (.iload 4, 2) := by decide +kernel
theorem dL_law_490 : decode cL_law 490 = .ok (.iconst 1, 1) := by decide +kernel
theorem dL_law_491 : decode cL_law 491 = .ok (.iadd, 1) := by decide +kernel
theorem dL_law_492 : decode cL_law 492 = .ok (.iaload, 1) := by decide +kernel
theorem dL_law_493 : decode cL_law 493 = .ok (.invokevirtual 59, 3) := by decide +kernel
theorem dL_law_496 : decode cL_law 496 = .ok (.pop, 1) := by decide +kernel
theorem dL_law_497 : decode cL_law 497 = .ok (.aload_n 2, 1) := by decide +kernel
theorem dL_law_498 : decode cL_law 498 = .ok (.aload_n 0, 1) := by decide +kernel
theorem dL_law_499 : decode cL_law 499 = .ok (.iload 4, 2) := by decide +kernel
theorem dL_law_501 : decode cL_law 501 = .ok (.iconst 1, 1) := by decide +kernel
theorem dL_law_502 : decode cL_law 502 = .ok (.iadd, 1) := by decide +kernel
theorem dL_law_503 : decode cL_law 503 = .ok (.iaload, 1) := by decide +kernel
theorem dL_law_504 : decode cL_law 504 = .ok (.invokevirtual 62, 3) := by decide +kernel
theorem dL_law_507 : decode cL_law 507 = .ok (.pop, 1) := by decide +kernel
theorem dL_law_508 : decode cL_law 508 = .ok (.goto 827, 3) := by decide +kernel
theorem dL_law_511 : decode cL_law 511 = .ok (.aload_n 1, 1) := by decide +kernel
theorem dL_law_512 : decode cL_law 512 = .ok (.aload_n 0, 1) := by decide +kernel
theorem dL_law_513 : decode cL_law 513 = .ok (.iload 4, 2) := by decide +kernel
theorem dL_law_515 : decode cL_law 515 = .ok (.iconst 1, 1) := by decide +kernel
theorem dL_law_516 : decode cL_law 516 = .ok (.iadd, 1) := by decide +kernel
theorem dL_law_517 : decode cL_law 517 = .ok (.iaload, 1) := by decide +kernel
theorem dL_law_518 : decode cL_law 518 = .ok (.invokevirtual 63, 3) := by decide +kernel
theorem dL_law_521 : decode cL_law 521 = .ok (.pop, 1) := by decide +kernel
theorem dL_law_522 : decode cL_law 522 = .ok (.aload_n 2, 1) := by decide +kernel
theorem dL_law_523 : decode cL_law 523 = .ok (.aload_n 0, 1) := by decide +kernel
theorem dL_law_524 : decode cL_law 524 = .ok (.iload 4, 2) := by decide +kernel
theorem dL_law_526 : decode cL_law 526 = .ok (.iconst 1, 1) := by decide +kernel
theorem dL_law_527 : decode cL_law 527 = .ok (.iadd, 1) := by decide +kernel
theorem dL_law_528 : decode cL_law 528 = .ok (.iaload, 1) := by decide +kernel
theorem dL_law_529 : decode cL_law 529 = .ok (.invokevirtual 66, 3) := by decide +kernel
theorem dL_law_532 : decode cL_law 532 = .ok (.pop, 1) := by decide +kernel
theorem dL_law_533 : decode cL_law 533 = .ok (.goto 802, 3) := by decide +kernel
theorem dL_law_536 : decode cL_law 536 = .ok (.aload_n 1, 1) := by decide +kernel
theorem dL_law_537 : decode cL_law 537 = .ok (.aload_n 0, 1) := by decide +kernel
theorem dL_law_538 : decode cL_law 538 = .ok (.iload 4, 2) := by decide +kernel
theorem dL_law_540 : decode cL_law 540 = .ok (.iconst 1, 1) := by decide +kernel
theorem dL_law_541 : decode cL_law 541 = .ok (.iadd, 1) := by decide +kernel
theorem dL_law_542 : decode cL_law 542 = .ok (.iaload, 1) := by decide +kernel
theorem dL_law_543 : decode cL_law 543 = .ok (.aload_n 0, 1) := by decide +kernel
theorem dL_law_544 : decode cL_law 544 = .ok (.iload 4, 2) := by decide +kernel
theorem dL_law_546 : decode cL_law 546 = .ok (.iconst 2, 1) := by decide +kernel
theorem dL_law_547 : decode cL_law 547 = .ok (.iadd, 1) := by decide +kernel
theorem dL_law_548 : decode cL_law 548 = .ok (.iaload, 1) := by decide +kernel
theorem dL_law_549 : decode cL_law 549 = .ok (.invokevirtual 67, 3) := by decide +kernel
theorem dL_law_552 : decode cL_law 552 = .ok (.pop, 1) := by decide +kernel
theorem dL_law_553 : decode cL_law 553 = .ok (.aload_n 2, 1) := by decide +kernel
theorem dL_law_554 : decode cL_law 554 = .ok (.aload_n 0, 1) := by decide +kernel
theorem dL_law_555 : decode cL_law 555 = .ok (.iload 4, 2) := by decide +kernel
theorem dL_law_557 : decode cL_law 557 = .ok (.iconst 1, 1) := by decide +kernel
theorem dL_law_558 : decode cL_law 558 = .ok (.iadd, 1) := by decide +kernel
theorem dL_law_559 : decode cL_law 559 = .ok (.iaload, 1) := by decide +kernel
theorem dL_law_560 : decode cL_law 560 = .ok (.aload_n 0, 1) := by decide +kernel
theorem dL_law_561 : decode cL_law 561 = .ok (.iload 4, 2) := by decide +kernel
theorem dL_law_563 : decode cL_law 563 = .ok (.iconst 2, 1) := by decide +kernel
theorem dL_law_564 : decode cL_law 564 = .ok (.iadd, 1) := by decide +kernel
theorem dL_law_565 : decode cL_law 565 = .ok (.iaload, 1) := by decide +kernel
theorem dL_law_566 : decode cL_law 566 = .ok (.invokevirtual 70, 3) := by decide +kernel
theorem dL_law_569 : decode cL_law 569 = .ok (.pop, 1) := by decide +kernel
theorem dL_law_570 : decode cL_law 570 = .ok (.goto 765, 3) := by decide +kernel
theorem dL_law_573 : decode cL_law 573 = .ok (.aload_n 1, 1) := by decide +kernel
theorem dL_law_574 : decode cL_law 574 = .ok (.aload_n 0, 1) := by decide +kernel
theorem dL_law_575 : decode cL_law 575 = .ok (.iload 4, 2) := by decide +kernel
theorem dL_law_577 : decode cL_law 577 = .ok (.iconst 1, 1) := by decide +kernel
theorem dL_law_578 : decode cL_law 578 = .ok (.iadd, 1) := by decide +kernel
theorem dL_law_579 : decode cL_law 579 = .ok (.iaload, 1) := by decide +kernel
theorem dL_law_580 : decode cL_law 580 = .ok (.invokevirtual 71, 3) := by decide +kernel
theorem dL_law_583 : decode cL_law 583 = .ok (.pop, 1) := by decide +kernel
theorem dL_law_584 : decode cL_law 584 = .ok (.aload_n 2, 1) := by decide +kernel
theorem dL_law_585 : decode cL_law 585 = .ok (.aload_n 0, 1) := by decide +kernel
theorem dL_law_586 : decode cL_law 586 = .ok (.iload 4, 2) := by decide +kernel
theorem dL_law_588 : decode cL_law 588 = .ok (.iconst 1, 1) := by decide +kernel
theorem dL_law_589 : decode cL_law 589 = .ok (.iadd, 1) := by decide +kernel
theorem dL_law_590 : decode cL_law 590 = .ok (.iaload, 1) := by decide +kernel
theorem dL_law_591 : decode cL_law 591 = .ok (.invokevirtual 74, 3) := by decide +kernel
theorem dL_law_594 : decode cL_law 594 = .ok (.pop, 1) := by decide +kernel
theorem dL_law_595 : decode cL_law 595 = .ok (.goto 740, 3) := by decide +kernel
theorem dL_law_598 : decode cL_law 598 = .ok (.aload_n 1, 1) := by decide +kernel
theorem dL_law_599 : decode cL_law 599 = .ok (.aload_n 0, 1) := by decide +kernel
theorem dL_law_600 : decode cL_law 600 = .ok (.iload 4, 2) := by decide +kernel
theorem dL_law_602 : decode cL_law 602 = .ok (.iconst 1, 1) := by decide +kernel
theorem dL_law_603 : decode cL_law 603 = .ok (.iadd, 1) := by decide +kernel
theorem dL_law_604 : decode cL_law 604 = .ok (.iaload, 1) := by decide +kernel
theorem dL_law_605 : decode cL_law 605 = .ok (.aload_n 0, 1) := by decide +kernel
theorem dL_law_606 : decode cL_law 606 = .ok (.iload 4, 2) := by decide +kernel
theorem dL_law_608 : decode cL_law 608 = .ok (.iconst 2, 1) := by decide +kernel
theorem dL_law_609 : decode cL_law 609 = .ok (.iadd, 1) := by decide +kernel
theorem dL_law_610 : decode cL_law 610 = .ok (.iaload, 1) := by decide +kernel
theorem dL_law_611 : decode cL_law 611 = .ok (.invokevirtual 75, 3) := by decide +kernel
theorem dL_law_614 : decode cL_law 614 = .ok (.pop, 1) := by decide +kernel
theorem dL_law_615 : decode cL_law 615 = .ok (.aload_n 2, 1) := by decide +kernel
theorem dL_law_616 : decode cL_law 616 = .ok (.aload_n 0, 1) := by decide +kernel
theorem dL_law_617 : decode cL_law 617 = .ok (.iload 4, 2) := by decide +kernel
theorem dL_law_619 : decode cL_law 619 = .ok (.iconst 1, 1) := by decide +kernel
theorem dL_law_620 : decode cL_law 620 = .ok (.iadd, 1) := by decide +kernel
theorem dL_law_621 : decode cL_law 621 = .ok (.iaload, 1) := by decide +kernel
theorem dL_law_622 : decode cL_law 622 = .ok (.aload_n 0, 1) := by decide +kernel
theorem dL_law_623 : decode cL_law 623 = .ok (.iload 4, 2) := by decide +kernel
theorem dL_law_625 : decode cL_law 625 = .ok (.iconst 2, 1) := by decide +kernel
theorem dL_law_626 : decode cL_law 626 = .ok (.iadd, 1) := by decide +kernel
theorem dL_law_627 : decode cL_law 627 = .ok (.iaload, 1) := by decide +kernel
theorem dL_law_628 : decode cL_law 628 = .ok (.invokevirtual 78, 3) := by decide +kernel
theorem dL_law_631 : decode cL_law 631 = .ok (.pop, 1) := by decide +kernel
theorem dL_law_632 : decode cL_law 632 = .ok (.goto 703, 3) := by decide +kernel
theorem dL_law_635 : decode cL_law 635 = .ok (.aload_n 1, 1) := by decide +kernel
theorem dL_law_636 : decode cL_law 636 = .ok (.aload_n 0, 1) := by decide +kernel
theorem dL_law_637 : decode cL_law 637 = .ok (.iload 4, 2) := by decide +kernel
theorem dL_law_639 : decode cL_law 639 = .ok (.iconst 1, 1) := by decide +kernel
theorem dL_law_640 : decode cL_law 640 = .ok (.iadd, 1) := by decide +kernel
theorem dL_law_641 : decode cL_law 641 = .ok (.iaload, 1) := by decide +kernel
theorem dL_law_642 : decode cL_law 642 = .ok (.aload_n 0, 1) := by decide +kernel
theorem dL_law_643 : decode cL_law 643 = .ok (.iload 4, 2) := by decide +kernel
theorem dL_law_645 : decode cL_law 645 = .ok (.iconst 2, 1) := by decide +kernel
theorem dL_law_646 : decode cL_law 646 = .ok (.iadd, 1) := by decide +kernel
theorem dL_law_647 : decode cL_law 647 = .ok (.iaload, 1) := by decide +kernel
theorem dL_law_648 : decode cL_law 648 = .ok (.invokevirtual 79, 3) := by decide +kernel
theorem dL_law_651 : decode cL_law 651 = .ok (.pop, 1) := by decide +kernel
theorem dL_law_652 : decode cL_law 652 = .ok (.aload_n 2, 1) := by decide +kernel
theorem dL_law_653 : decode cL_law 653 = .ok (.aload_n 0, 1) := by decide +kernel
theorem dL_law_654 : decode cL_law 654 = .ok (.iload 4, 2) := by decide +kernel
theorem dL_law_656 : decode cL_law 656 = .ok (.iconst 1, 1) := by decide +kernel
theorem dL_law_657 : decode cL_law 657 = .ok (.iadd, 1) := by decide +kernel
theorem dL_law_658 : decode cL_law 658 = .ok (.iaload, 1) := by decide +kernel
theorem dL_law_659 : decode cL_law 659 = .ok (.aload_n 0, 1) := by decide +kernel
theorem dL_law_660 : decode cL_law 660 = .ok (.iload 4, 2) := by decide +kernel
theorem dL_law_662 : decode cL_law 662 = .ok (.iconst 2, 1) := by decide +kernel
theorem dL_law_663 : decode cL_law 663 = .ok (.iadd, 1) := by decide +kernel
theorem dL_law_664 : decode cL_law 664 = .ok (.iaload, 1) := by decide +kernel
theorem dL_law_665 : decode cL_law 665 = .ok (.invokevirtual 82, 3) := by decide +kernel
theorem dL_law_668 : decode cL_law 668 = .ok (.pop, 1) := by decide +kernel
theorem dL_law_669 : decode cL_law 669 = .ok (.goto 666, 3) := by decide +kernel
theorem dL_law_672 : decode cL_law 672 = .ok (.aload_n 1, 1) := by decide +kernel
theorem dL_law_673 : decode cL_law 673 = .ok (.aload_n 0, 1) := by decide +kernel
theorem dL_law_674 : decode cL_law 674 = .ok (.iload 4, 2) := by decide +kernel
theorem dL_law_676 : decode cL_law 676 = .ok (.iconst 1, 1) := by decide +kernel
theorem dL_law_677 : decode cL_law 677 = .ok (.iadd, 1) := by decide +kernel
theorem dL_law_678 : decode cL_law 678 = .ok (.iaload, 1) := by decide +kernel
theorem dL_law_679 : decode cL_law 679 = .ok (.invokevirtual 83, 3) := by decide +kernel
theorem dL_law_682 : decode cL_law 682 = .ok (.pop, 1) := by decide +kernel
theorem dL_law_683 : decode cL_law 683 = .ok (.aload_n 2, 1) := by decide +kernel
theorem dL_law_684 : decode cL_law 684 = .ok (.aload_n 0, 1) := by decide +kernel
theorem dL_law_685 : decode cL_law 685 = .ok (.iload 4, 2) := by decide +kernel
theorem dL_law_687 : decode cL_law 687 = .ok (.iconst 1, 1) := by decide +kernel
theorem dL_law_688 : decode cL_law 688 = .ok (.iadd, 1) := by decide +kernel
theorem dL_law_689 : decode cL_law 689 = .ok (.iaload, 1) := by decide +kernel
theorem dL_law_690 : decode cL_law 690 = .ok (.invokevirtual 86, 3) := by decide +kernel
theorem dL_law_693 : decode cL_law 693 = .ok (.pop, 1) := by decide +kernel
theorem dL_law_694 : decode cL_law 694 = .ok (.goto 641, 3) := by decide +kernel
theorem dL_law_697 : decode cL_law 697 = .ok (.aload_n 1, 1) := by decide +kernel
theorem dL_law_698 : decode cL_law 698 = .ok (.aload_n 0, 1) := by decide +kernel
theorem dL_law_699 : decode cL_law 699 = .ok (.iload 4, 2) := by decide +kernel
theorem dL_law_701 : decode cL_law 701 = .ok (.iconst 1, 1) := by decide +kernel
theorem dL_law_702 : decode cL_law 702 = .ok (.iadd, 1) := by decide +kernel
theorem dL_law_703 : decode cL_law 703 = .ok (.iaload, 1) := by decide +kernel
theorem dL_law_704 : decode cL_law 704 = .ok (.aload_n 0, 1) := by decide +kernel
theorem dL_law_705 : decode cL_law 705 = .ok (.iload 4, 2) := by decide +kernel
theorem dL_law_707 : decode cL_law 707 = .ok (.iconst 2, 1) := by decide +kernel
theorem dL_law_708 : decode cL_law 708 = .ok (.iadd, 1) := by decide +kernel
theorem dL_law_709 : decode cL_law 709 = .ok (.iaload, 1) := by decide +kernel
theorem dL_law_710 : decode cL_law 710 = .ok (.invokevirtual 87, 3) := by decide +kernel
theorem dL_law_713 : decode cL_law 713 = .ok (.pop, 1) := by decide +kernel
theorem dL_law_714 : decode cL_law 714 = .ok (.aload_n 2, 1) := by decide +kernel
theorem dL_law_715 : decode cL_law 715 = .ok (.aload_n 0, 1) := by decide +kernel
theorem dL_law_716 : decode cL_law 716 = .ok (.iload 4, 2) := by decide +kernel
theorem dL_law_718 : decode cL_law 718 = .ok (.iconst 1, 1) := by decide +kernel
theorem dL_law_719 : decode cL_law 719 = .ok (.iadd, 1) := by decide +kernel
theorem dL_law_720 : decode cL_law 720 = .ok (.iaload, 1) := by decide +kernel
theorem dL_law_721 : decode cL_law 721 = .ok (.aload_n 0, 1) := by decide +kernel
theorem dL_law_722 : decode cL_law 722 = .ok (.iload 4, 2) := by decide +kernel
theorem dL_law_724 : decode cL_law 724 = .ok (.iconst 2, 1) := by decide +kernel
theorem dL_law_725 : decode cL_law 725 = .ok (.iadd, 1) := by decide +kernel
theorem dL_law_726 : decode cL_law 726 = .ok (.iaload, 1) := by decide +kernel
theorem dL_law_727 : decode cL_law 727 = .ok (.invokevirtual 90, 3) := by decide +kernel
theorem dL_law_730 : decode cL_law 730 = .ok (.pop, 1) := by decide +kernel
theorem dL_law_731 : decode cL_law 731 = .ok (.goto 604, 3) := by decide +kernel
theorem dL_law_734 : decode cL_law 734 = .ok (.aload_n 1, 1) := by decide +kernel
theorem dL_law_735 : decode cL_law 735 = .ok (.aload_n 0, 1) := by decide +kernel
theorem dL_law_736 : decode cL_law 736 = .ok (.iload 4, 2) := by decide +kernel
theorem dL_law_738 : decode cL_law 738 = .ok (.iconst 1, 1) := by decide +kernel
theorem dL_law_739 : decode cL_law 739 = .ok (.iadd, 1) := by decide +kernel
theorem dL_law_740 : decode cL_law 740 = .ok (.iaload, 1) := by decide +kernel
theorem dL_law_741 : decode cL_law 741 = .ok (.invokevirtual 91, 3) := by decide +kernel
theorem dL_law_744 : decode cL_law 744 = .ok (.pop, 1) := by decide +kernel
theorem dL_law_745 : decode cL_law 745 = .ok (.aload_n 2, 1) := by decide +kernel
theorem dL_law_746 : decode cL_law 746 = .ok (.aload_n 0, 1) := by decide +kernel
theorem dL_law_747 : decode cL_law 747 = .ok (.iload 4, 2) := by decide +kernel
theorem dL_law_749 : decode cL_law 749 = .ok (.iconst 1, 1) := by decide +kernel
theorem dL_law_750 : decode cL_law 750 = .ok (.iadd, 1) := by decide +kernel
theorem dL_law_751 : decode cL_law 751 = .ok (.iaload, 1) := by decide +kernel
theorem dL_law_752 : decode cL_law 752 = .ok (.invokevirtual 94, 3) := by decide +kernel
theorem dL_law_755 : decode cL_law 755 = .ok (.pop, 1) := by decide +kernel
theorem dL_law_756 : decode cL_law 756 = .ok (.goto 579, 3) := by decide +kernel
theorem dL_law_759 : decode cL_law 759 = .ok (.aload_n 1, 1) := by decide +kernel
theorem dL_law_760 : decode cL_law 760 = .ok (.invokevirtual 95, 3) := by decide +kernel
theorem dL_law_763 : decode cL_law 763 = .ok (.pop, 1) := by decide +kernel
theorem dL_law_764 : decode cL_law 764 = .ok (.aload_n 2, 1) := by decide +kernel
theorem dL_law_765 : decode cL_law 765 = .ok (.invokevirtual 98, 3) := by decide +kernel
theorem dL_law_768 : decode cL_law 768 = .ok (.pop, 1) := by decide +kernel
theorem dL_law_769 : decode cL_law 769 = .ok (.goto 566, 3) := by decide +kernel
theorem dL_law_772 : decode cL_law 772 = .ok (.aload_n 1, 1) := by decide +kernel
theorem dL_law_773 : decode cL_law 773 = .ok (.aload_n 0, 1) := by decide +kernel
theorem dL_law_774 : decode cL_law 774 = .ok (.iload 4, 2) := by decide +kernel
theorem dL_law_776 : decode cL_law 776 = .ok (.iconst 1, 1) := by decide +kernel
theorem dL_law_777 : decode cL_law 777 = .ok (.iadd, 1) := by decide +kernel
theorem dL_law_778 : decode cL_law 778 = .ok (.iaload, 1) := by decide +kernel
theorem dL_law_779 : decode cL_law 779 = .ok (.aload_n 0, 1) := by decide +kernel
theorem dL_law_780 : decode cL_law 780 = .ok (.iload 4, 2) := by decide +kernel
theorem dL_law_782 : decode cL_law 782 = .ok (.iconst 2, 1) := by decide +kernel
theorem dL_law_783 : decode cL_law 783 = .ok (.iadd, 1) := by decide +kernel
theorem dL_law_784 : decode cL_law 784 = .ok (.iaload, 1) := by decide +kernel
theorem dL_law_785 : decode cL_law 785 = .ok (.invokevirtual 99, 3) := by decide +kernel
theorem dL_law_788 : decode cL_law 788 = .ok (.pop, 1) := by decide +kernel
theorem dL_law_789 : decode cL_law 789 = .ok (.aload_n 2, 1) := by decide +kernel
theorem dL_law_790 : decode cL_law 790 = .ok (.aload_n 0, 1) := by decide +kernel
theorem dL_law_791 : decode cL_law 791 = .ok (.iload 4, 2) := by decide +kernel
theorem dL_law_793 : decode cL_law 793 = .ok (.iconst 1, 1) := by decide +kernel
theorem dL_law_794 : decode cL_law 794 = .ok (.iadd, 1) := by decide +kernel
theorem dL_law_795 : decode cL_law 795 = .ok (.iaload, 1) := by decide +kernel
theorem dL_law_796 : decode cL_law 796 = .ok (.aload_n 0, 1) := by decide +kernel
theorem dL_law_797 : decode cL_law 797 = .ok (.iload 4, 2) := by decide +kernel
theorem dL_law_799 : decode cL_law 799 = .ok (.iconst 2, 1) := by decide +kernel
theorem dL_law_800 : decode cL_law 800 = .ok (.iadd, 1) := by decide +kernel
theorem dL_law_801 : decode cL_law 801 = .ok (.iaload, 1) := by decide +kernel
theorem dL_law_802 : decode cL_law 802 = .ok (.invokevirtual 102, 3) := by decide +kernel
theorem dL_law_805 : decode cL_law 805 = .ok (.pop, 1) := by decide +kernel
theorem dL_law_806 : decode cL_law 806 = .ok (.goto 529, 3) := by decide +kernel
theorem dL_law_809 : decode cL_law 809 = .ok (.aload_n 1, 1) := by decide +kernel
theorem dL_law_810 : decode cL_law 810 = .ok (.aload_n 0, 1) := by decide +kernel
theorem dL_law_811 : decode cL_law 811 = .ok (.iload 4, 2) := by decide +kernel
theorem dL_law_813 : decode cL_law 813 = .ok (.iconst 1, 1) := by decide +kernel
theorem dL_law_814 : decode cL_law 814 = .ok (.iadd, 1) := by decide +kernel
theorem dL_law_815 : decode cL_law 815 = .ok (.iaload, 1) := by decide +kernel
theorem dL_law_816 : decode cL_law 816 = .ok (.aload_n 0, 1) := by decide +kernel
theorem dL_law_817 : decode cL_law 817 = .ok (.iload 4, 2) := by decide +kernel
theorem dL_law_819 : decode cL_law 819 = .ok (.iconst 2, 1) := by decide +kernel
theorem dL_law_820 : decode cL_law 820 = .ok (.iadd, 1) := by decide +kernel
theorem dL_law_821 : decode cL_law 821 = .ok (.iaload, 1) := by decide +kernel
theorem dL_law_822 : decode cL_law 822 = .ok (.aload_n 0, 1) := by decide +kernel
theorem dL_law_823 : decode cL_law 823 = .ok (.iload 4, 2) := by decide +kernel
theorem dL_law_825 : decode cL_law 825 = .ok (.iconst 3, 1) := by decide +kernel
theorem dL_law_826 : decode cL_law 826 = .ok (.iadd, 1) := by decide +kernel
theorem dL_law_827 : decode cL_law 827 = .ok (.iaload, 1) := by decide +kernel
theorem dL_law_828 : decode cL_law 828 = .ok (.invokevirtual 103, 3) := by decide +kernel
theorem dL_law_831 : decode cL_law 831 = .ok (.pop, 1) := by decide +kernel
theorem dL_law_832 : decode cL_law 832 = .ok (.aload_n 2, 1) := by decide +kernel
theorem dL_law_833 : decode cL_law 833 = .ok (.aload_n 0, 1) := by decide +kernel
theorem dL_law_834 : decode cL_law 834 = .ok (.iload 4, 2) := by decide +kernel
theorem dL_law_836 : decode cL_law 836 = .ok (.iconst 1, 1) := by decide +kernel
theorem dL_law_837 : decode cL_law 837 = .ok (.iadd, 1) := by decide +kernel
theorem dL_law_838 : decode cL_law 838 = .ok (.iaload, 1) := by decide +kernel
theorem dL_law_839 : decode cL_law 839 = .ok (.aload_n 0, 1) := by decide +kernel
theorem dL_law_840 : decode cL_law 840 = .ok (.iload 4, 2) := by decide +kernel
theorem dL_law_842 : decode cL_law 842 = .ok (.iconst 2, 1) := by decide +kernel
theorem dL_law_843 : decode cL_law 843 = .ok (.iadd, 1) := by decide +kernel
theorem dL_law_844 : decode cL_law 844 = .ok (.iaload, 1) := by decide +kernel
theorem dL_law_845 : decode cL_law 845 = .ok (.aload_n 0, 1) := by decide +kernel
theorem dL_law_846 : decode cL_law 846 = .ok (.iload 4, 2) := by decide +kernel
theorem dL_law_848 : decode cL_law 848 = .ok (.iconst 3, 1) := by decide +kernel
theorem dL_law_849 : decode cL_law 849 = .ok (.iadd, 1) := by decide +kernel
theorem dL_law_850 : decode cL_law 850 = .ok (.iaload, 1) := by decide +kernel
theorem dL_law_851 : decode cL_law 851 = .ok (.invokevirtual 107, 3) := by decide +kernel
theorem dL_law_854 : decode cL_law 854 = .ok (.pop, 1) := by decide +kernel
theorem dL_law_855 : decode cL_law 855 = .ok (.goto 480, 3) := by decide +kernel
theorem dL_law_858 : decode cL_law 858 = .ok (.aload_n 1, 1) := by decide +kernel
theorem dL_law_859 : decode cL_law 859 = .ok (.invokevirtual 108, 3) := by decide +kernel
theorem dL_law_862 : decode cL_law 862 = .ok (.pop, 1) := by decide +kernel
theorem dL_law_863 : decode cL_law 863 = .ok (.aload_n 2, 1) := by decide +kernel
theorem dL_law_864 : decode cL_law 864 = .ok (.invokevirtual 111, 3) := by decide +kernel
theorem dL_law_867 : decode cL_law 867 = .ok (.pop, 1) := by decide +kernel
theorem dL_law_868 : decode cL_law 868 = .ok (.goto 467, 3) := by decide +kernel
theorem dL_law_871 : decode cL_law 871 = .ok (.aload_n 1, 1) := by decide +kernel
theorem dL_law_872 : decode cL_law 872 = .ok (.invokevirtual 112, 3) := by decide +kernel
theorem dL_law_875 : decode cL_law 875 = .ok (.pop, 1) := by decide +kernel
theorem dL_law_876 : decode cL_law 876 = .ok (.aload_n 2, 1) := by decide +kernel
theorem dL_law_877 : decode cL_law 877 = .ok (.invokevirtual 115, 3) := by decide +kernel
theorem dL_law_880 : decode cL_law 880 = .ok (.pop, 1) := by decide +kernel
theorem dL_law_881 : decode cL_law 881 = .ok (.goto 454, 3) := by decide +kernel
theorem dL_law_884 : decode cL_law 884 = .ok (.aload_n 1, 1) := by decide +kernel
theorem dL_law_885 : decode cL_law 885 = .ok (.invokevirtual 116, 3) := by decide +kernel
theorem dL_law_888 : decode cL_law 888 = .ok (.pop, 1) := by decide +kernel
theorem dL_law_889 : decode cL_law 889 = .ok (.aload_n 2, 1) := by decide +kernel
theorem dL_law_890 : decode cL_law 890 = .ok (.invokevirtual 119, 3) := by decide +kernel
theorem dL_law_893 : decode cL_law 893 = .ok (.pop, 1) := by decide +kernel
theorem dL_law_894 : decode cL_law 894 = .ok (.goto 441, 3) := by decide +kernel
theorem dL_law_897 : decode cL_law 897 = .ok (.aload_n 1, 1) := by decide +kernel
theorem dL_law_898 : decode cL_law 898 = .ok (.invokevirtual 120, 3) := by decide +kernel
theorem dL_law_901 : decode cL_law 901 = .ok (.pop, 1) := by decide +kernel
theorem dL_law_902 : decode cL_law 902 = .ok (.aload_n 2, 1) := by decide +kernel
theorem dL_law_903 : decode cL_law 903 = .ok (.invokevirtual 123, 3) := by decide +kernel
theorem dL_law_906 : decode cL_law 906 = .ok (.pop, 1) := by decide +kernel
theorem dL_law_907 : decode cL_law 907 = .ok (.goto 428, 3) := by decide +kernel
theorem dL_law_910 : decode cL_law 910 = .ok (.aload_n 1, 1) := by decide +kernel
theorem dL_law_911 : decode cL_law 911 = .ok (.aload_n 0, 1) := by decide +kernel
theorem dL_law_912 : decode cL_law 912 = .ok (.iload 4, 2) := by decide +kernel
theorem dL_law_914 : decode cL_law 914 = .ok (.iconst 1, 1) := by decide +kernel
theorem dL_law_915 : decode cL_law 915 = .ok (.iadd, 1) := by decide +kernel
theorem dL_law_916 : decode cL_law 916 = .ok (.iaload, 1) := by decide +kernel
theorem dL_law_917 : decode cL_law 917 = .ok (.invokevirtual 124, 3) := by decide +kernel
theorem dL_law_920 : decode cL_law 920 = .ok (.pop, 1) := by decide +kernel
theorem dL_law_921 : decode cL_law 921 = .ok (.aload_n 2, 1) := by decide +kernel
theorem dL_law_922 : decode cL_law 922 = .ok (.aload_n 0, 1) := by decide +kernel
theorem dL_law_923 : decode cL_law 923 = .ok (.iload 4, 2) := by decide +kernel
theorem dL_law_925 : decode cL_law 925 = .ok (.iconst 1, 1) := by decide +kernel
theorem dL_law_926 : decode cL_law 926 = .ok (.iadd, 1) := by decide +kernel
theorem dL_law_927 : decode cL_law 927 = .ok (.iaload, 1) := by decide +kernel
theorem dL_law_928 : decode cL_law 928 = .ok (.invokevirtual 127, 3) := by decide +kernel
theorem dL_law_931 : decode cL_law 931 = .ok (.pop, 1) := by decide +kernel
theorem dL_law_932 : decode cL_law 932 = .ok (.goto 403, 3) := by decide +kernel
theorem dL_law_935 : decode cL_law 935 = .ok (.aload_n 1, 1) := by decide +kernel
theorem dL_law_936 : decode cL_law 936 = .ok (.invokevirtual 128, 3) := by decide +kernel
theorem dL_law_939 : decode cL_law 939 = .ok (.pop, 1) := by decide +kernel
theorem dL_law_940 : decode cL_law 940 = .ok (.aload_n 2, 1) := by decide +kernel
theorem dL_law_941 : decode cL_law 941 = .ok (.invokevirtual 131, 3) := by decide +kernel
theorem dL_law_944 : decode cL_law 944 = .ok (.pop, 1) := by decide +kernel
theorem dL_law_945 : decode cL_law 945 = .ok (.goto 390, 3) := by decide +kernel
theorem dL_law_948 : decode cL_law 948 = .ok (.aload_n 1, 1) := by decide +kernel
theorem dL_law_949 : decode cL_law 949 = .ok (.aload_n 0, 1) := by decide +kernel
theorem dL_law_950 : decode cL_law 950 = .ok (.iload 4, 2) := by decide +kernel
theorem dL_law_952 : decode cL_law 952 = .ok (.iconst 1, 1) := by decide +kernel
theorem dL_law_953 : decode cL_law 953 = .ok (.iadd, 1) := by decide +kernel
theorem dL_law_954 : decode cL_law 954 = .ok (.iaload, 1) := by decide +kernel
theorem dL_law_955 : decode cL_law 955 = .ok (.invokevirtual 132, 3) := by decide +kernel
theorem dL_law_958 : decode cL_law 958 = .ok (.pop, 1) := by decide +kernel
theorem dL_law_959 : decode cL_law 959 = .ok (.aload_n 2, 1) := by decide +kernel
theorem dL_law_960 : decode cL_law 960 = .ok (.aload_n 0, 1) := by decide +kernel
theorem dL_law_961 : decode cL_law 961 = .ok (.iload 4, 2) := by decide +kernel
theorem dL_law_963 : decode cL_law 963 = .ok (.iconst 1, 1) := by decide +kernel
theorem dL_law_964 : decode cL_law 964 = .ok (.iadd, 1) := by decide +kernel
theorem dL_law_965 : decode cL_law 965 = .ok (.iaload, 1) := by decide +kernel
theorem dL_law_966 : decode cL_law 966 = .ok (.invokevirtual 135, 3) := by decide +kernel
theorem dL_law_969 : decode cL_law 969 = .ok (.pop, 1) := by decide +kernel
theorem dL_law_970 : decode cL_law 970 = .ok (.goto 365, 3) := by decide +kernel
theorem dL_law_973 : decode cL_law 973 = .ok (.aload_n 1, 1) := by decide +kernel
theorem dL_law_974 : decode cL_law 974 = .ok (.invokevirtual 136, 3) := by decide +kernel
theorem dL_law_977 : decode cL_law 977 = .ok (.pop, 1) := by decide +kernel
theorem dL_law_978 : decode cL_law 978 = .ok (.aload_n 2, 1) := by decide +kernel
theorem dL_law_979 : decode cL_law 979 = .ok (.invokevirtual 139, 3) := by decide +kernel
theorem dL_law_982 : decode cL_law 982 = .ok (.pop, 1) := by decide +kernel
theorem dL_law_983 : decode cL_law 983 = .ok (.goto 352, 3) := by decide +kernel
theorem dL_law_986 : decode cL_law 986 = .ok (.aload_n 1, 1) := by decide +kernel
theorem dL_law_987 : decode cL_law 987 = .ok (.aload_n 0, 1) := by decide +kernel
theorem dL_law_988 : decode cL_law 988 = .ok (.iload 4, 2) := by decide +kernel
theorem dL_law_990 : decode cL_law 990 = .ok (.iconst 1, 1) := by decide +kernel
theorem dL_law_991 : decode cL_law 991 = .ok (.iadd, 1) := by decide +kernel
theorem dL_law_992 : decode cL_law 992 = .ok (.iaload, 1) := by decide +kernel
theorem dL_law_993 : decode cL_law 993 = .ok (.invokevirtual 140, 3) := by decide +kernel
theorem dL_law_996 : decode cL_law 996 = .ok (.pop, 1) := by decide +kernel
theorem dL_law_997 : decode cL_law 997 = .ok (.aload_n 2, 1) := by decide +kernel
theorem dL_law_998 : decode cL_law 998 = .ok (.aload_n 0, 1) := by decide +kernel
theorem dL_law_999 : decode cL_law 999 = .ok (.iload 4, 2) := by decide +kernel
theorem dL_law_1001 : decode cL_law 1001 = .ok (.iconst 1, 1) := by decide +kernel
theorem dL_law_1002 : decode cL_law 1002 = .ok (.iadd, 1) := by decide +kernel
theorem dL_law_1003 : decode cL_law 1003 = .ok (.iaload, 1) := by decide +kernel
theorem dL_law_1004 : decode cL_law 1004 = .ok (.invokevirtual 143, 3) := by decide +kernel
theorem dL_law_1007 : decode cL_law 1007 = .ok (.pop, 1) := by decide +kernel
theorem dL_law_1008 : decode cL_law 1008 = .ok (.goto 327, 3) := by decide +kernel
theorem dL_law_1011 : decode cL_law 1011 = .ok (.aload_n 1, 1) := by decide +kernel
theorem dL_law_1012 : decode cL_law 1012 = .ok (.invokevirtual 144, 3) := by decide +kernel
theorem dL_law_1015 : decode cL_law 1015 = .ok (.pop, 1) := by decide +kernel
theorem dL_law_1016 : decode cL_law 1016 = .ok (.aload_n 2, 1) := by decide +kernel
theorem dL_law_1017 : decode cL_law 1017 = .ok (.invokevirtual 147, 3) := by decide +kernel
theorem dL_law_1020 : decode cL_law 1020 = .ok (.pop, 1) := by decide +kernel
theorem dL_law_1021 : decode cL_law 1021 = .ok (.goto 314, 3) := by decide +kernel
theorem dL_law_1024 : decode cL_law 1024 = .ok (.aload_n 1, 1) := by decide +kernel
theorem dL_law_1025 : decode cL_law 1025 = .ok (.aload_n 0, 1) := by decide +kernel
theorem dL_law_1026 : decode cL_law 1026 = .ok (.iload 4, 2) := by decide +kernel
theorem dL_law_1028 : decode cL_law 1028 = .ok (.iconst 1, 1) := by decide +kernel
theorem dL_law_1029 : decode cL_law 1029 = .ok (.iadd, 1) := by decide +kernel
theorem dL_law_1030 : decode cL_law 1030 = .ok (.iaload, 1) := by decide +kernel
theorem dL_law_1031 : decode cL_law 1031 = .ok (.invokevirtual 148, 3) := by decide +kernel
theorem dL_law_1034 : decode cL_law 1034 = .ok (.pop, 1) := by decide +kernel
theorem dL_law_1035 : decode cL_law 1035 = .ok (.aload_n 2, 1) := by decide +kernel
theorem dL_law_1036 : decode cL_law 1036 = .ok (.aload_n 0, 1) := by decide +kernel
theorem dL_law_1037 : decode cL_law 1037 = .ok (.iload 4, 2) := by decide +kernel
theorem dL_law_1039 : decode cL_law 1039 = .ok (.iconst 1, 1) := by decide +kernel
theorem dL_law_1040 : decode cL_law 1040 = .ok (.iadd, 1) := by decide +kernel
theorem dL_law_1041 : decode cL_law 1041 = .ok (.iaload, 1) := by decide +kernel
theorem dL_law_1042 : decode cL_law 1042 = .ok (.invokevirtual 151, 3) := by decide +kernel
theorem dL_law_1045 : decode cL_law 1045 = .ok (.pop, 1) := by decide +kernel
theorem dL_law_1046 : decode cL_law 1046 = .ok (.goto 289, 3) := by decide +kernel
theorem dL_law_1049 : decode cL_law 1049 = .ok (.aload_n 1, 1) := by decide +kernel
theorem dL_law_1050 : decode cL_law 1050 = .ok (.aload_n 0, 1) := by decide +kernel
theorem dL_law_1051 : decode cL_law 1051 = .ok (.iload 4, 2) := by decide +kernel
theorem dL_law_1053 : decode cL_law 1053 = .ok (.iconst 1, 1) := by decide +kernel
theorem dL_law_1054 : decode cL_law 1054 = .ok (.iadd, 1) := by decide +kernel
theorem dL_law_1055 : decode cL_law 1055 = .ok (.iaload, 1) := by decide +kernel
theorem dL_law_1056 : decode cL_law 1056 = .ok (.invokevirtual 152, 3) := by decide +kernel
theorem dL_law_1059 : decode cL_law 1059 = .ok (.pop, 1) := by decide +kernel
theorem dL_law_1060 : decode cL_law 1060 = .ok (.aload_n 2, 1) := by decide +kernel
theorem dL_law_1061 : decode cL_law 1061 = .ok (.aload_n 0, 1) := by decide +kernel
theorem dL_law_1062 : decode cL_law 1062 = .ok (.iload 4, 2) := by decide +kernel
theorem dL_law_1064 : decode cL_law 1064 = .ok (.iconst 1, 1) := by decide +kernel
theorem dL_law_1065 : decode cL_law 1065 = .ok (.iadd, 1) := by decide +kernel
theorem dL_law_1066 : decode cL_law 1066 = .ok (.iaload, 1) := by decide +kernel
theorem dL_law_1067 : decode cL_law 1067 = .ok (.invokevirtual 155, 3) := by decide +kernel
theorem dL_law_1070 : decode cL_law 1070 = .ok (.pop, 1) := by decide +kernel
theorem dL_law_1071 : decode cL_law 1071 = .ok (.goto 264, 3) := by decide +kernel
theorem dL_law_1074 : decode cL_law 1074 = .ok (.aload_n 1, 1) := by decide +kernel
theorem dL_law_1075 : decode cL_law 1075 = .ok (.aload_n 0, 1) := by decide +kernel
theorem dL_law_1076 : decode cL_law 1076 = .ok (.iload 4, 2) := by decide +kernel
theorem dL_law_1078 : decode cL_law 1078 = .ok (.iconst 1, 1) := by decide +kernel
theorem dL_law_1079 : decode cL_law 1079 = .ok (.iadd, 1) := by decide +kernel
theorem dL_law_1080 : decode cL_law 1080 = .ok (.iaload, 1) := by decide +kernel
theorem dL_law_1081 : decode cL_law 1081 = .ok (.aload_n 0, 1) := by decide +kernel
theorem dL_law_1082 : decode cL_law 1082 = .ok (.iload 4, 2) := by decide +kernel
theorem dL_law_1084 : decode cL_law 1084 = .ok (.iconst 2, 1) := by decide +kernel
theorem dL_law_1085 : decode cL_law 1085 = .ok (.iadd, 1) := by decide +kernel
theorem dL_law_1086 : decode cL_law 1086 = .ok (.iaload, 1) := by decide +kernel
theorem dL_law_1087 : decode cL_law 1087 = .ok (.invokevirtual 156, 3) := by decide +kernel
theorem dL_law_1090 : decode cL_law 1090 = .ok (.pop, 1) := by decide +kernel
theorem dL_law_1091 : decode cL_law 1091 = .ok (.aload_n 2, 1) := by decide +kernel
theorem dL_law_1092 : decode cL_law 1092 = .ok (.aload_n 0, 1) := by decide +kernel
theorem dL_law_1093 : decode cL_law 1093 = .ok (.iload 4, 2) := by decide +kernel
theorem dL_law_1095 : decode cL_law 1095 = .ok (.iconst 1, 1) := by decide +kernel
theorem dL_law_1096 : decode cL_law 1096 = .ok (.iadd, 1) := by decide +kernel
theorem dL_law_1097 : decode cL_law 1097 = .ok (.iaload, 1) := by decide +kernel
theorem dL_law_1098 : decode cL_law 1098 = .ok (.aload_n 0, 1) := by decide +kernel
theorem dL_law_1099 : decode cL_law 1099 = .ok (.iload 4, 2) := by decide +kernel
theorem dL_law_1101 : decode cL_law 1101 = .ok (.iconst 2, 1) := by decide +kernel
theorem dL_law_1102 : decode cL_law 1102 = .ok (.iadd, 1) := by decide +kernel
theorem dL_law_1103 : decode cL_law 1103 = .ok (.iaload, 1) := by decide +kernel
theorem dL_law_1104 : decode cL_law 1104 = .ok (.invokevirtual 159, 3) := by decide +kernel
theorem dL_law_1107 : decode cL_law 1107 = .ok (.pop, 1) := by decide +kernel
theorem dL_law_1108 : decode cL_law 1108 = .ok (.goto 227, 3) := by decide +kernel
theorem dL_law_1111 : decode cL_law 1111 = .ok (.aload_n 1, 1) := by decide +kernel
theorem dL_law_1112 : decode cL_law 1112 = .ok (.aload_n 0, 1) := by decide +kernel
theorem dL_law_1113 : decode cL_law 1113 = .ok (.iload 4, 2) := by decide +kernel
theorem dL_law_1115 : decode cL_law 1115 = .ok (.iconst 1, 1) := by decide +kernel
theorem dL_law_1116 : decode cL_law 1116 = .ok (.iadd, 1) := by decide +kernel
theorem dL_law_1117 : decode cL_law 1117 = .ok (.iaload, 1) := by decide +kernel
theorem dL_law_1118 : decode cL_law 1118 = .ok (.aload_n 0, 1) := by decide +kernel
theorem dL_law_1119 : decode cL_law 1119 = .ok (.iload 4, 2) := by decide +kernel
theorem dL_law_1121 : decode cL_law 1121 = .ok (.iconst 2, 1) := by decide +kernel
theorem dL_law_1122 : decode cL_law 1122 = .ok (.iadd, 1) := by decide +kernel
theorem dL_law_1123 : decode cL_law 1123 = .ok (.iaload, 1) := by decide +kernel
theorem dL_law_1124 : decode cL_law 1124 = .ok (.aload_n 0, 1) := by decide +kernel
theorem dL_law_1125 : decode cL_law 1125 = .ok (.iload 4, 2) := by decide +kernel
theorem dL_law_1127 : decode cL_law 1127 = .ok (.iconst 3, 1) := by decide +kernel
theorem dL_law_1128 : decode cL_law 1128 = .ok (.iadd, 1) := by decide +kernel
theorem dL_law_1129 : decode cL_law 1129 = .ok (.iaload, 1) := by decide +kernel
theorem dL_law_1130 : decode cL_law 1130 = .ok (.aload_n 0, 1) := by decide +kernel
theorem dL_law_1131 : decode cL_law 1131 = .ok (.iload 4, 2) := by decide +kernel
theorem dL_law_1133 : decode cL_law 1133 = .ok (.iconst 4, 1) := by decide +kernel
theorem dL_law_1134 : decode cL_law 1134 = .ok (.iadd, 1) := by decide +kernel
theorem dL_law_1135 : decode cL_law 1135 = .ok (.iaload, 1) := by decide +kernel
theorem dL_law_1136 : decode cL_law 1136 = .ok (.invokevirtual 160, 3) := by decide +kernel
theorem dL_law_1139 : decode cL_law 1139 = .ok (.pop, 1) := by decide +kernel
theorem dL_law_1140 : decode cL_law 1140 = .ok (.aload_n 2, 1) := by decide +kernel
theorem dL_law_1141 : decode cL_law 1141 = .ok (.aload_n 0, 1) := by decide +kernel
theorem dL_law_1142 : decode cL_law 1142 = .ok (.iload 4, 2) := by decide +kernel
theorem dL_law_1144 : decode cL_law 1144 = .ok (.iconst 1, 1) := by decide +kernel
theorem dL_law_1145 : decode cL_law 1145 = .ok (.iadd, 1) := by decide +kernel
theorem dL_law_1146 : decode cL_law 1146 = .ok (.iaload, 1) := by decide +kernel
theorem dL_law_1147 : decode cL_law 1147 = .ok (.aload_n 0, 1) := by decide +kernel
theorem dL_law_1148 : decode cL_law 1148 = .ok (.iload 4, 2) := by decide +kernel
theorem dL_law_1150 : decode cL_law 1150 = .ok (.iconst 2, 1) := by decide +kernel
theorem dL_law_1151 : decode cL_law 1151 = .ok (.iadd, 1) := by decide +kernel
theorem dL_law_1152 : decode cL_law 1152 = .ok (.iaload, 1) := by decide +kernel
theorem dL_law_1153 : decode cL_law 1153 = .ok (.aload_n 0, 1) := by decide +kernel
theorem dL_law_1154 : decode cL_law 1154 = .ok (.iload 4, 2) := by decide +kernel
theorem dL_law_1156 : decode cL_law 1156 = .ok (.iconst 3, 1) := by decide +kernel
theorem dL_law_1157 : decode cL_law 1157 = .ok (.iadd, 1) := by decide +kernel
theorem dL_law_1158 : decode cL_law 1158 = .ok (.iaload, 1) := by decide +kernel
theorem dL_law_1159 : decode cL_law 1159 = .ok (.aload_n 0, 1) := by decide +kernel
theorem dL_law_1160 : decode cL_law 1160 = .ok (.iload 4, 2) := by decide +kernel
theorem dL_law_1162 : decode cL_law 1162 = .ok (.iconst 4, 1) := by decide +kernel
theorem dL_law_1163 : decode cL_law 1163 = .ok (.iadd, 1) := by decide +kernel
theorem dL_law_1164 : decode cL_law 1164 = .ok (.iaload, 1) := by decide +kernel
theorem dL_law_1165 : decode cL_law 1165 = .ok (.invokevirtual 164, 3) := by decide +kernel
theorem dL_law_1168 : decode cL_law 1168 = .ok (.pop, 1) := by decide +kernel
theorem dL_law_1169 : decode cL_law 1169 = .ok (.goto 166, 3) := by decide +kernel
theorem dL_law_1172 : decode cL_law 1172 = .ok (.aload_n 1, 1) := by decide +kernel
theorem dL_law_1173 : decode cL_law 1173 = .ok (.aload_n 0, 1) := by decide +kernel
theorem dL_law_1174 : decode cL_law 1174 = .ok (.iload 4, 2) := by decide +kernel
theorem dL_law_1176 : decode cL_law 1176 = .ok (.iconst 1, 1) := by decide +kernel
theorem dL_law_1177 : decode cL_law 1177 = .ok (.iadd, 1) := by decide +kernel
theorem dL_law_1178 : decode cL_law 1178 = .ok (.iaload, 1) := by decide +kernel
theorem dL_law_1179 : decode cL_law 1179 = .ok (.invokevirtual 165, 3) := by decide +kernel
theorem dL_law_1182 : decode cL_law 1182 = .ok (.pop, 1) := by decide +kernel
theorem dL_law_1183 : decode cL_law 1183 = .ok (.aload_n 2, 1) := by decide +kernel
theorem dL_law_1184 : decode cL_law 1184 = .ok (.aload_n 0, 1) := by decide +kernel
theorem dL_law_1185 : decode cL_law 1185 = .ok (.iload 4, 2) := by decide +kernel
theorem dL_law_1187 : decode cL_law 1187 = .ok (.iconst 1, 1) := by decide +kernel
theorem dL_law_1188 : decode cL_law 1188 = .ok (.iadd, 1) := by decide +kernel
theorem dL_law_1189 : decode cL_law 1189 = .ok (.iaload, 1) := by decide +kernel
theorem dL_law_1190 : decode cL_law 1190 = .ok (.invokevirtual 168, 3) := by decide +kernel
theorem dL_law_1193 : decode cL_law 1193 = .ok (.pop, 1) := by decide +kernel
theorem dL_law_1194 : decode cL_law 1194 = .ok (.goto 141, 3) := by decide +kernel
theorem dL_law_1197 : decode cL_law 1197 = .ok (.aload_n 1, 1) := by decide +kernel
theorem dL_law_1198 : decode cL_law 1198 = .ok (.aload_n 0, 1) := by decide +kernel
theorem dL_law_1199 : decode cL_law 1199 = .ok (.iload 4, 2) := by decide +kernel
theorem dL_law_1201 : decode cL_law 1201 = .ok (.iconst 1, 1) := by decide +kernel
theorem dL_law_1202 : decode cL_law 1202 = .ok (.iadd, 1) := by decide +kernel
theorem dL_law_1203 : decode cL_law 1203 = .ok (.iaload, 1) := by decide +kernel
theorem dL_law_1204 : decode cL_law 1204 = .ok (.invokevirtual 169, 3) := by decide +kernel
theorem dL_law_1207 : decode cL_law 1207 = .ok (.pop, 1) := by decide +kernel
theorem dL_law_1208 : decode cL_law 1208 = .ok (.aload_n 2, 1) := by decide +kernel
theorem dL_law_1209 : decode cL_law 1209 = .ok (.aload_n 0, 1) := by decide +kernel
theorem dL_law_1210 : decode cL_law 1210 = .ok (.iload 4, 2) := by decide +kernel
theorem dL_law_1212 : decode cL_law 1212 = .ok (.iconst 1, 1) := by decide +kernel
theorem dL_law_1213 : decode cL_law 1213 = .ok (.iadd, 1) := by decide +kernel
theorem dL_law_1214 : decode cL_law 1214 = .ok (.iaload, 1) := by decide +kernel
theorem dL_law_1215 : decode cL_law 1215 = .ok (.invokevirtual 172, 3) := by decide +kernel
theorem dL_law_1218 : decode cL_law 1218 = .ok (.pop, 1) := by decide +kernel
theorem dL_law_1219 : decode cL_law 1219 = .ok (.goto 116, 3) := by decide +kernel
theorem dL_law_1222 : decode cL_law 1222 = .ok (.aload_n 1, 1) := by decide +kernel
theorem dL_law_1223 : decode cL_law 1223 = .ok (.invokevirtual 173, 3) := by decide +kernel
theorem dL_law_1226 : decode cL_law 1226 = .ok (.pop, 1) := by decide +kernel
theorem dL_law_1227 : decode cL_law 1227 = .ok (.aload_n 2, 1) := by decide +kernel
theorem dL_law_1228 : decode cL_law 1228 = .ok (.invokevirtual 176, 3) := by decide +kernel
theorem dL_law_1231 : decode cL_law 1231 = .ok (.pop, 1) := by decide +kernel
theorem dL_law_1232 : decode cL_law 1232 = .ok (.goto 103, 3) := by decide +kernel
theorem dL_law_1235 : decode cL_law 1235 = .ok (.aload_n 1, 1) := by decide +kernel
theorem dL_law_1236 : decode cL_law 1236 = .ok (.aload_n 0, 1) := by decide +kernel
theorem dL_law_1237 : decode cL_law 1237 = .ok (.iload 4, 2) := by decide +kernel
theorem dL_law_1239 : decode cL_law 1239 = .ok (.iconst 1, 1) := by decide +kernel
theorem dL_law_1240 : decode cL_law 1240 = .ok (.iadd, 1) := by decide +kernel
theorem dL_law_1241 : decode cL_law 1241 = .ok (.iaload, 1) := by decide +kernel
theorem dL_law_1242 : decode cL_law 1242 = .ok (.invokevirtual 177, 3) := by decide +kernel
theorem dL_law_1245 : decode cL_law 1245 = .ok (.pop, 1) := by decide +kernel
theorem dL_law_1246 : decode cL_law 1246 = .ok (.aload_n 2, 1) := by decide +kernel
theorem dL_law_1247 : decode cL_law 1247 = .ok (.aload_n 0, 1) := by decide +kernel
theorem dL_law_1248 : decode cL_law 1248 = .ok (.iload 4, 2) := by decide +kernel
theorem dL_law_1250 : decode cL_law 1250 = .ok (.iconst 1, 1) := by decide +kernel
theorem dL_law_1251 : decode cL_law 1251 = .ok (.iadd, 1) := by decide +kernel
theorem dL_law_1252 : decode cL_law 1252 = .ok (.iaload, 1) := by decide +kernel
theorem dL_law_1253 : decode cL_law 1253 = .ok (.invokevirtual 180, 3) := by decide +kernel
theorem dL_law_1256 : decode cL_law 1256 = .ok (.pop, 1) := by decide +kernel
theorem dL_law_1257 : decode cL_law 1257 = .ok (.goto 78, 3) := by decide +kernel
theorem dL_law_1260 : decode cL_law 1260 = .ok (.aload_n 1, 1) := by decide +kernel
theorem dL_law_1261 : decode cL_law 1261 = .ok (.aload_n 0, 1) := by decide +kernel
theorem dL_law_1262 : decode cL_law 1262 = .ok (.iload 4, 2) := by decide +kernel
theorem dL_law_1264 : decode cL_law 1264 = .ok (.iconst 1, 1) := by decide +kernel
theorem dL_law_1265 : decode cL_law 1265 = .ok (.iadd, 1) := by decide +kernel
theorem dL_law_1266 : decode cL_law 1266 = .ok (.iaload, 1) := by decide +kernel
theorem dL_law_1267 : decode cL_law 1267 = .ok (.invokevirtual 181, 3) := by decide +kernel
theorem dL_law_1270 : decode cL_law 1270 = .ok (.pop, 1) := by decide +kernel
theorem dL_law_1271 : decode cL_law 1271 = .ok (.aload_n 2, 1) := by decide +kernel
theorem dL_law_1272 : decode cL_law 1272 = .ok (.aload_n 0, 1) := by decide +kernel
theorem dL_law_1273 : decode cL_law 1273 = .ok (.iload 4, 2) := by decide +kernel
theorem dL_law_1275 : decode cL_law 1275 = .ok (.iconst 1, 1) := by decide +kernel
theorem dL_law_1276 : decode cL_law 1276 = .ok (.iadd, 1) := by decide +kernel
theorem dL_law_1277 : decode cL_law 1277 = .ok (.iaload, 1) := by decide +kernel
theorem dL_law_1278 : decode cL_law 1278 = .ok (.invokevirtual 184, 3) := by decide +kernel
theorem dL_law_1281 : decode cL_law 1281 = .ok (.pop, 1) := by decide +kernel
theorem dL_law_1282 : decode cL_law 1282 = .ok (.goto 53, 3) := by decide +kernel
theorem dL_law_1285 : decode cL_law 1285 = .ok (.aload_n 1, 1) := by decide +kernel
theorem dL_law_1286 : decode cL_law 1286 = .ok (.aload_n 0, 1) := by decide +kernel
theorem dL_law_1287 : decode cL_law 1287 = .ok (.iload 4, 2) := by decide +kernel
theorem dL_law_1289 : decode cL_law 1289 = .ok (.iconst 1, 1) := by decide +kernel
theorem dL_law_1290 : decode cL_law 1290 = .ok (.iadd, 1) := by decide +kernel
theorem dL_law_1291 : decode cL_law 1291 = .ok (.iaload, 1) := by decide +kernel
theorem dL_law_1292 : decode cL_law 1292 = .ok (.invokevirtual 185, 3) := by decide +kernel
theorem dL_law_1295 : decode cL_law 1295 = .ok (.pop, 1) := by decide +kernel
theorem dL_law_1296 : decode cL_law 1296 = .ok (.aload_n 2, 1) := by decide +kernel
theorem dL_law_1297 : decode cL_law 1297 = .ok (.aload_n 0, 1) := by decide +kernel
theorem dL_law_1298 : decode cL_law 1298 = .ok (.iload 4, 2) := by decide +kernel
theorem dL_law_1300 : decode cL_law 1300 = .ok (.iconst 1, 1) := by decide +kernel
theorem dL_law_1301 : decode cL_law 1301 = .ok (.iadd, 1) := by decide +kernel
theorem dL_law_1302 : decode cL_law 1302 = .ok (.iaload, 1) := by decide +kernel
theorem dL_law_1303 : decode cL_law 1303 = .ok (.invokevirtual 188, 3) := by decide +kernel
theorem dL_law_1306 : decode cL_law 1306 = .ok (.pop, 1) := by decide +kernel
theorem dL_law_1307 : decode cL_law 1307 = .ok (.goto 28, 3) := by decide +kernel
theorem dL_law_1310 : decode cL_law 1310 = .ok (.aload_n 1, 1) := by decide +kernel
theorem dL_law_1311 : decode cL_law 1311 = .ok (.aload_n 0, 1) := by decide +kernel
theorem dL_law_1312 : decode cL_law 1312 = .ok (.iload 4, 2) := by decide +kernel
theorem dL_law_1314 : decode cL_law 1314 = .ok (.iconst 1, 1) := by decide +kernel
theorem dL_law_1315 : decode cL_law 1315 = .ok (.iadd, 1) := by decide +kernel
theorem dL_law_1316 : decode cL_law 1316 = .ok (.iaload, 1) := by decide +kernel
theorem dL_law_1317 : decode cL_law 1317 = .ok (.invokevirtual 189, 3) := by decide +kernel
theorem dL_law_1320 : decode cL_law 1320 = .ok (.pop, 1) := by decide +kernel
theorem dL_law_1321 : decode cL_law 1321 = .ok (.aload_n 2, 1) := by decide +kernel
theorem dL_law_1322 : decode cL_law 1322 = .ok (.aload_n 0, 1) := by decide +kernel
theorem dL_law_1323 : decode cL_law 1323 = .ok (.iload 4, 2) := by decide +kernel
theorem dL_law_1325 : decode cL_law 1325 = .ok (.iconst 1, 1) := by decide +kernel
theorem dL_law_1326 : decode cL_law 1326 = .ok (.iadd, 1) := by decide +kernel
theorem dL_law_1327 : decode cL_law 1327 = .ok (.iaload, 1) := by decide +kernel
theorem dL_law_1328 : decode cL_law 1328 = .ok (.invokevirtual 192, 3) := by decide +kernel
theorem dL_law_1331 : decode cL_law 1331 = .ok (.pop, 1) := by decide +kernel
theorem dL_law_1332 : decode cL_law 1332 = .ok (.goto 3, 3) := by decide +kernel
