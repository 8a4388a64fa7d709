theorem tw_24 : Cond.classLink RL (8 : Nat) RX9 ∈ gT := gT_t (List.mem_of_getElem? (i := 24) (by decide +kernel)) (by decide +kernel)
theorem tw_25 : Cond.instantiable RX9 (15 : Nat) ∈ gT := gT_t (List.mem_of_getElem? (i := 25) (by decide +kernel)) (by decide +kernel)
theorem tw_26 : Cond.methodLink RL (18 : Nat) yX9_init ∈ gT := gT_t (List.mem_of_getElem? (i := 26) (by decide +kernel)) (by decide +kernel)
theorem tw_27 : Cond.instanceMethod yX9_init ∈ gT := gT_t (List.mem_of_getElem? (i := 27) (by decide +kernel)) (by decide +kernel)
theorem tw_28 : Cond.code yX9_init cX9_init 2 none ∈ gT := gT_t (List.mem_of_getElem? (i := 28) (by decide +kernel)) (by decide +kernel)
theorem tw_1126 : Cond.instantiable RX10 (49 : Nat) ∈ gT := gT_t (List.mem_of_getElem? (i := 1126) (by decide +kernel)) (by decide +kernel)
theorem tw_1132 : Cond.classLink RL (19 : Nat) RX10 ∈ gT := gT_t (List.mem_of_getElem? (i := 1132) (by decide +kernel)) (by decide +kernel)
theorem tw_1133 : Cond.methodLink RL (21 : Nat) yX10_init ∈ gT := gT_t (List.mem_of_getElem? (i := 1133) (by decide +kernel)) (by decide +kernel)
theorem tw_1134 : Cond.instanceMethod yX10_init ∈ gT := gT_t (List.mem_of_getElem? (i := 1134) (by decide +kernel)) (by decide +kernel)
theorem tw_1135 : Cond.code yX10_init cX10_init 1 none ∈ gT := gT_t (List.mem_of_getElem? (i := 1135) (by decide +kernel)) (by decide +kernel)
theorem dL_law_0 : decode cL_law 0 = .ok (.new 8, 3) := by decide +kernel
theorem dL_law_3 : decode cL_law 3 = .ok (.dup, 1) := by decide +kernel
theorem dL_law_4 : decode cL_law 4 = .ok (.invokespecial 18, 3) := by decide +kernel
theorem dL_law_7 : decode cL_law 7 = .ok (.astore_n 1, 1) := by decide +kernel
theorem dL_law_8 : decode cL_law 8 = .ok (.new 19, 3) := by decide +kernel
theorem dL_law_11 : decode cL_law 11 = .ok (.dup, 1) := by decide +kernel
theorem dL_law_12 : decode cL_law 12 = .ok (.invokespecial 21, 3) := by decide +kernel
theorem dL_law_15 : decode cL_law 15 = .ok (.astore_n 2, 1) := by decide +kernel
theorem dL_law_16 : decode cL_law 16 = .ok (.iconst 1, 1) := by decide +kernel
theorem dL_law_17 : decode cL_law 17 = .ok (.newarray .long, 2) := by decide +kernel
theorem dL_law_19 : decode cL_law 19 = .ok (.astore_n 3, 1) := by decide +kernel
theorem dL_law_20 : decode cL_law 20 = .ok (.iconst 0, 1) := by decide +kernel
theorem dL_law_21 : decode cL_law 21 = .ok (.istore 4, 2) := by decide +kernel
theorem dL_law_23 : decode cL_law 23 = .ok (.iload 4, 2) := by decide +kernel
theorem dL_law_25 : decode cL_law 25 = .ok (.aload_n 0, 1) := by decide +kernel
theorem dL_law_26 : decode cL_law 26 = .ok (.arraylength, 1) := by decide +kernel
theorem dL_law_27 : decode cL_law 27 = .ok (.bipush 6, 2) := by decide +kernel
theorem dL_law_29 : decode cL_law 29 = .ok (.isub, 1) := by decide +kernel
theorem dL_law_30 : decode cL_law 30 = .ok (.if_icmp .gt 1311, 3) := by decide +kernel
theorem dL_law_33 : decode cL_law 33 = .ok (.aload_n 0, 1) := by decide +kernel
theorem dL_law_34 : decode cL_law 34 = .ok (.iload 4, 2) := by decide +kernel
theorem dL_law_36 : decode cL_law 36 = .ok (.iaload, 1) := by decide +kernel
theorem dL_law_37 : decode cL_law 37 = .ok (.bipush 63, 2) := by decide +kernel
theorem dL_law_39 : decode cL_law 39 = .ok (.iand, 1) := by decide +kernel
theorem dL_law_40 : decode cL_law 40 = .ok (.tableswitch 1295 0 40 #[180, 253, 278, 291, 304, 341, 381, 421, 446, 471, 496, 533, 558, 595, 632, 657, 694, 719, 732, 769, 818, 831, 844, 857, 870, 895, 908, 933, 946, 971, 984, 1009, 1034, 1071, 1132, 1157, 1182, 1195, 1220, 1245, 1270], 180) := by decide +kernel
theorem dL_law_1335 : decode cL_law 1335 = .ok (.iinc 4 6, 3) := by decide +kernel
theorem dL_law_1338 : decode cL_law 1338 = .ok (.goto (-1315), 3) := by decide +kernel
theorem dL_law_1341 : decode cL_law 1341 = .ok (.iconst 1, 1) := by decide +kernel
theorem dL_law_1342 : decode cL_law 1342 = .ok (.ireturn, 1) := by decide +kernel
