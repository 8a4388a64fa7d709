theorem tw_833 : Cond.methodLink RX9 (307 : Nat) yX3_nameOf ∈ gT := gT_t (List.mem_of_getElem? (i := 833) (by decide +kernel)) (by decide +kernel)
theorem tw_834 : Cond.instanceMethod yX3_nameOf ∈ gT := gT_t (List.mem_of_getElem? (i := 834) (by decide +kernel)) (by decide +kernel)
theorem tw_835 : Cond.selects RX3 yX3_nameOf yX3_nameOf ∈ gT := gT_t (List.mem_of_getElem? (i := 835) (by decide +kernel)) (by decide +kernel)
theorem tw_836 : Cond.code yX3_nameOf cX3_nameOf 3 (some .long) ∈ gT := gT_t (List.mem_of_getElem? (i := 836) (by decide +kernel)) (by decide +kernel)
theorem tw_837 : Cond.methodLink RX9 (311 : Nat) yX6_putName ∈ gT := gT_t (List.mem_of_getElem? (i := 837) (by decide +kernel)) (by decide +kernel)
theorem tw_838 : Cond.instanceMethod yX6_putName ∈ gT := gT_t (List.mem_of_getElem? (i := 838) (by decide +kernel)) (by decide +kernel)
theorem tw_839 : Cond.selects RX6 yX6_putName yX6_putName ∈ gT := gT_t (List.mem_of_getElem? (i := 839) (by decide +kernel)) (by decide +kernel)
theorem tw_840 : Cond.code yX6_putName cX6_putName 5 none ∈ gT := gT_t (List.mem_of_getElem? (i := 840) (by decide +kernel)) (by decide +kernel)
theorem tw_846 : Cond.methodLink RX9 (317 : Nat) yX6_putText ∈ gT := gT_t (List.mem_of_getElem? (i := 846) (by decide +kernel)) (by decide +kernel)
theorem tw_847 : Cond.instanceMethod yX6_putText ∈ gT := gT_t (List.mem_of_getElem? (i := 847) (by decide +kernel)) (by decide +kernel)
theorem tw_848 : Cond.selects RX6 yX6_putText yX6_putText ∈ gT := gT_t (List.mem_of_getElem? (i := 848) (by decide +kernel)) (by decide +kernel)
theorem tw_849 : Cond.code yX6_putText cX6_putText 3 none ∈ gT := gT_t (List.mem_of_getElem? (i := 849) (by decide +kernel)) (by decide +kernel)
theorem tw_850 : Cond.methodLink RX6 (17 : Nat) yJ0_length_8abf5 ∈ gT := gT_t (List.mem_of_getElem? (i := 850) (by decide +kernel)) (by decide +kernel)
theorem tw_851 : Cond.methodLink RX6 (22 : Nat) yJ0_charAt_5068e ∈ gT := gT_t (List.mem_of_getElem? (i := 851) (by decide +kernel)) (by decide +kernel)
theorem dX6_putText_0 : decode cX6_putText 0 = .ok (.iconst 0, 1) := by decide +kernel
theorem dX6_putText_1 : decode cX6_putText 1 = .ok (.istore_n 2, 1) := by decide +kernel
theorem dX6_putText_2 : decode cX6_putText 2 = .ok (.iload_n 2, 1) := by decide +kernel
theorem dX6_putText_3 : decode cX6_putText 3 = .ok (.aload_n 1, 1) := by decide +kernel
theorem dX6_putText_4 : decode cX6_putText 4 = .ok (.invokevirtual 17, 3) := by decide +kernel
theorem dX6_putText_7 : decode cX6_putText 7 = .ok (.if_icmp .ge 18, 3) := by decide +kernel
theorem dX6_putText_10 : decode cX6_putText 10 = .ok (.aload_n 0, 1) := by decide +kernel
theorem dX6_putText_11 : decode cX6_putText 11 = .ok (.aload_n 1, 1) := by decide +kernel
theorem dX6_putText_12 : decode cX6_putText 12 = .ok (.iload_n 2, 1) := by decide +kernel
theorem dX6_putText_13 : decode cX6_putText 13 = .ok (.invokevirtual 22, 3) := by decide +kernel
theorem dX6_putText_16 : decode cX6_putText 16 = .ok (.invokevirtual 26, 3) := by decide +kernel
theorem dX6_putText_19 : decode cX6_putText 19 = .ok (.iinc 2 1, 3) := by decide +kernel
theorem dX6_putText_22 : decode cX6_putText 22 = .ok (.goto (-20), 3) := by decide +kernel
theorem dX6_putText_25 : decode cX6_putText 25 = .ok (.return_, 1) := by decide +kernel
theorem dX9_tag_0 : decode cX9_tag 0 = .ok (.aload_n 0, 1) := by decide +kernel
theorem dX9_tag_1 : decode cX9_tag 1 = .ok (.iconst 2, 1) := by decide +kernel
theorem dX9_tag_2 : decode cX9_tag 2 = .ok (.iload_n 1, 1) := by decide +kernel
theorem dX9_tag_3 : decode cX9_tag 3 = .ok (.invokevirtual 124, 3) := by decide +kernel
theorem dX9_tag_6 : decode cX9_tag 6 = .ok (.ifCond .ne 5, 3) := by decide +kernel
theorem dX9_tag_9 : decode cX9_tag 9 = .ok (.iconst (-1), 1) := by decide +kernel
theorem dX9_tag_10 : decode cX9_tag 10 = .ok (.ireturn, 1) := by decide +kernel
theorem dX9_tag_11 : decode cX9_tag 11 = .ok (.aload_n 0, 1) := by decide +kernel
theorem dX9_tag_12 : decode cX9_tag 12 = .ok (.getfield 65, 3) := by decide +kernel
theorem dX9_tag_15 : decode cX9_tag 15 = .ok (.iload_n 1, 1) := by decide +kernel
theorem dX9_tag_16 : decode cX9_tag 16 = .ok (.invokevirtual 139, 3) := by decide +kernel
theorem dX9_tag_19 : decode cX9_tag 19 = .ok (.istore_n 2, 1) := by decide +kernel
theorem dX9_tag_20 : decode cX9_tag 20 = .ok (.aload_n 0, 1) := by decide +kernel
theorem dX9_tag_21 : decode cX9_tag 21 = .ok (.getfield 40, 3) := by decide +kernel
theorem dX9_tag_24 : decode cX9_tag 24 = .ok (.iconst 0, 1) := by decide +kernel
theorem dX9_tag_25 : decode cX9_tag 25 = .ok (.putfield 306, 3) := by decide +kernel
theorem dX9_tag_28 : decode cX9_tag 28 = .ok (.aload_n 0, 1) := by decide +kernel
theorem dX9_tag_29 : decode cX9_tag 29 = .ok (.getfield 40, 3) := by decide +kernel
theorem dX9_tag_32 : decode cX9_tag 32 = .ok (.aload_n 0, 1) := by decide +kernel
theorem dX9_tag_33 : decode cX9_tag 33 = .ok (.getfield 65, 3) := by decide +kernel
theorem dX9_tag_36 : decode cX9_tag 36 = .ok (.getfield 168, 3) := by decide +kernel
theorem dX9_tag_39 : decode cX9_tag 39 = .ok (.iconst 2, 1) := by decide +kernel
theorem dX9_tag_40 : decode cX9_tag 40 = .ok (.iload_n 1, 1) := by decide +kernel
theorem dX9_tag_41 : decode cX9_tag 41 = .ok (.invokevirtual 307, 3) := by decide +kernel
theorem dX9_tag_44 : decode cX9_tag 44 = .ok (.invokevirtual 311, 3) := by decide +kernel
theorem dX9_tag_47 : decode cX9_tag 47 = .ok (.iload_n 2, 1) := by decide +kernel
theorem dX9_tag_48 : decode cX9_tag 48 = .ok (.iconst (-1), 1) := by decide +kernel
theorem dX9_tag_49 : decode cX9_tag 49 = .ok (.if_icmp .ne 16, 3) := by decide +kernel
theorem dX9_tag_52 : decode cX9_tag 52 = .ok (.aload_n 0, 1) := by decide +kernel
theorem dX9_tag_53 : decode cX9_tag 53 = .ok (.getfield 40, 3) := by decide +kernel
theorem dX9_tag_56 : decode cX9_tag 56 = .ok (.ldc_w 315, 3) := by decide +kernel
theorem dX9_tag_59 : decode cX9_tag 59 = .ok (.invokevirtual 317, 3) := by decide +kernel
theorem dX9_tag_62 : decode cX9_tag 62 = .ok (.goto 32, 3) := by decide +kernel
theorem dX9_tag_65 : decode cX9_tag 65 = .ok (.aload_n 0, 1) := by decide +kernel
theorem dX9_tag_66 : decode cX9_tag 66 = .ok (.getfield 40, 3) := by decide +kernel
theorem dX9_tag_69 : decode cX9_tag 69 = .ok (.ldc_w 320, 3) := by decide +kernel
theorem dX9_tag_72 : decode cX9_tag 72 = .ok (.invokevirtual 317, 3) := by decide +kernel
theorem dX9_tag_75 : decode cX9_tag 75 = .ok (.aload_n 0, 1) := by decide +kernel
theorem dX9_tag_76 : decode cX9_tag 76 = .ok (.getfield 40, 3) := by decide +kernel
theorem dX9_tag_79 : decode cX9_tag 79 = .ok (.aload_n 0, 1) := by decide +kernel
theorem dX9_tag_80 : decode cX9_tag 80 = .ok (.getfield 65, 3) := by decide +kernel
theorem dX9_tag_83 : decode cX9_tag 83 = .ok (.getfield 168, 3) := by decide +kernel
theorem dX9_tag_86 : decode cX9_tag 86 = .ok (.iconst 0, 1) := by decide +kernel
theorem dX9_tag_87 : decode cX9_tag 87 = .ok (.iload_n 2, 1) := by decide +kernel
theorem dX9_tag_88 : decode cX9_tag 88 = .ok (.invokevirtual 307, 3) := by decide +kernel
theorem dX9_tag_91 : decode cX9_tag 91 = .ok (.invokevirtual 311, 3) := by decide +kernel
theorem dX9_tag_94 : decode cX9_tag 94 = .ok (.aload_n 0, 1) := by decide +kernel
theorem dX9_tag_95 : decode cX9_tag 95 = .ok (.getfield 65, 3) := by decide +kernel
theorem dX9_tag_98 : decode cX9_tag 98 = .ok (.iload_n 1, 1) := by decide +kernel
theorem dX9_tag_99 : decode cX9_tag 99 = .ok (.invokevirtual 267, 3) := by decide +kernel
theorem dX9_tag_102 : decode cX9_tag 102 = .ok (.ifCond .eq 13, 3) := by decide +kernel
theorem dX9_tag_105 : decode cX9_tag 105 = .ok (.aload_n 0, 1) := by decide +kernel
theorem dX9_tag_106 : decode cX9_tag 106 = .ok (.getfield 40, 3) := by decide +kernel
theorem dX9_tag_109 : decode cX9_tag 109 = .ok (.ldc_w 322, 3) := by decide +kernel
theorem dX9_tag_112 : decode cX9_tag 112 = .ok (.invokevirtual 317, 3) := by decide +kernel
theorem dX9_tag_115 : decode cX9_tag 115 = .ok (.aload_n 0, 1) := by decide +kernel
theorem dX9_tag_116 : decode cX9_tag 116 = .ok (.getfield 40, 3) := by decide +kernel
theorem dX9_tag_119 : decode cX9_tag 119 = .ok (.getfield 306, 3) := by decide +kernel
theorem dX9_tag_122 : decode cX9_tag 122 = .ok (.ireturn, 1) := by decide +kernel
theorem rl_11 : RI 11 11 11 := by unfold RI; decide +kernel
