theorem tw_1039 : Cond.methodLink RL (7 : Nat) yX9_parcel ∈ gT := gT_t (List.mem_of_getElem? (i := 1039) (by decide +kernel)) (by decide +kernel)
theorem tw_1040 : Cond.instanceMethod yX9_parcel ∈ gT := gT_t (List.mem_of_getElem? (i := 1040) (by decide +kernel)) (by decide +kernel)
theorem tw_1041 : Cond.selects RX9 yX9_parcel yX9_parcel ∈ gT := gT_t (List.mem_of_getElem? (i := 1041) (by decide +kernel)) (by decide +kernel)
theorem tw_1042 : Cond.code yX9_parcel cX9_parcel 3 (some .int) ∈ gT := gT_t (List.mem_of_getElem? (i := 1042) (by decide +kernel)) (by decide +kernel)
theorem tw_1108 : Cond.methodLink RX9 (158 : Nat) yX8_whoSitsBy ∈ gT := gT_t (List.mem_of_getElem? (i := 1108) (by decide +kernel)) (by decide +kernel)
theorem tw_1113 : Cond.methodLink RL (15 : Nat) yX9_person ∈ gT := gT_t (List.mem_of_getElem? (i := 1113) (by decide +kernel)) (by decide +kernel)
theorem tw_1114 : Cond.instanceMethod yX9_person ∈ gT := gT_t (List.mem_of_getElem? (i := 1114) (by decide +kernel)) (by decide +kernel)
theorem tw_1115 : Cond.selects RX9 yX9_person yX9_person ∈ gT := gT_t (List.mem_of_getElem? (i := 1115) (by decide +kernel)) (by decide +kernel)
theorem tw_1116 : Cond.code yX9_person cX9_person 3 (some .int) ∈ gT := gT_t (List.mem_of_getElem? (i := 1116) (by decide +kernel)) (by decide +kernel)
theorem tn_211 : Cond.fieldLinkNest RX9 (172 : Nat) "WonderParcels$Post" "keen" "[I" "WonderParcels" ∈ nW := nW_t (List.mem_of_getElem? (i := 211) (by decide +kernel)) (by decide +kernel)
theorem tn_255 : Cond.fieldLinkNest RX9 (143 : Nat) "WonderParcels$World" "room" "[I" "WonderParcels" ∈ nW := nW_t (List.mem_of_getElem? (i := 255) (by decide +kernel)) (by decide +kernel)
theorem tn_261 : Cond.fieldLinkNest RX9 (152 : Nat) "WonderParcels$World" "open" "[I" "WonderParcels" ∈ nW := nW_t (List.mem_of_getElem? (i := 261) (by decide +kernel)) (by decide +kernel)
theorem tn_267 : Cond.fieldLinkNest RX9 (165 : Nat) "WonderParcels$World" "wish" "[I" "WonderParcels" ∈ nW := nW_t (List.mem_of_getElem? (i := 267) (by decide +kernel)) (by decide +kernel)
theorem tn_272 : Cond.fieldLinkNest RX9 (178 : Nat) "WonderParcels$World" "right" "[I" "WonderParcels" ∈ nW := nW_t (List.mem_of_getElem? (i := 272) (by decide +kernel)) (by decide +kernel)
theorem tn_274 : Cond.fieldLinkNest RX9 (181 : Nat) "WonderParcels$World" "wrong" "[I" "WonderParcels" ∈ nW := nW_t (List.mem_of_getElem? (i := 274) (by decide +kernel)) (by decide +kernel)
theorem dL_parcel_0 : decode cL_parcel 0 = .ok (.aload_n 3, 1) := by decide +kernel
theorem dL_parcel_1 : decode cL_parcel 1 = .ok (.iconst 0, 1) := by decide +kernel
theorem dL_parcel_2 : decode cL_parcel 2 = .ok (.aload_n 0, 1) := by decide +kernel
theorem dL_parcel_3 : decode cL_parcel 3 = .ok (.iload_n 1, 1) := by decide +kernel
theorem dL_parcel_4 : decode cL_parcel 4 = .ok (.iload_n 2, 1) := by decide +kernel
theorem dL_parcel_5 : decode cL_parcel 5 = .ok (.invokevirtual 7, 3) := by decide +kernel
theorem dL_parcel_8 : decode cL_parcel 8 = .ok (.i2l, 1) := by decide +kernel
theorem dL_parcel_9 : decode cL_parcel 9 = .ok (.lastore, 1) := by decide +kernel
theorem dL_parcel_10 : decode cL_parcel 10 = .ok (.goto 7, 3) := by decide +kernel
theorem dL_parcel_13 : decode cL_parcel 13 = .ok (.astore 4, 2) := by decide +kernel
theorem dL_parcel_15 : decode cL_parcel 15 = .ok (.iconst 1, 1) := by decide +kernel
theorem dL_parcel_16 : decode cL_parcel 16 = .ok (.ireturn, 1) := by decide +kernel
theorem dL_parcel_17 : decode cL_parcel 17 = .ok (.iconst 0, 1) := by decide +kernel
theorem dL_parcel_18 : decode cL_parcel 18 = .ok (.ireturn, 1) := by decide +kernel
theorem dL_person_0 : decode cL_person 0 = .ok (.aload_n 3, 1) := by decide +kernel
theorem dL_person_1 : decode cL_person 1 = .ok (.iconst 0, 1) := by decide +kernel
theorem dL_person_2 : decode cL_person 2 = .ok (.aload_n 0, 1) := by decide +kernel
theorem dL_person_3 : decode cL_person 3 = .ok (.iload_n 1, 1) := by decide +kernel
theorem dL_person_4 : decode cL_person 4 = .ok (.iload_n 2, 1) := by decide +kernel
theorem dL_person_5 : decode cL_person 5 = .ok (.invokevirtual 15, 3) := by decide +kernel
theorem dL_person_8 : decode cL_person 8 = .ok (.i2l, 1) := by decide +kernel
theorem dL_person_9 : decode cL_person 9 = .ok (.lastore, 1) := by decide +kernel
theorem dL_person_10 : decode cL_person 10 = .ok (.goto 7, 3) := by decide +kernel
theorem dL_person_13 : decode cL_person 13 = .ok (.astore 4, 2) := by decide +kernel
theorem dL_person_15 : decode cL_person 15 = .ok (.iconst 1, 1) := by decide +kernel
theorem dL_person_16 : decode cL_person 16 = .ok (.ireturn, 1) := by decide +kernel
theorem dL_person_17 : decode cL_person 17 = .ok (.iconst 0, 1) := by decide +kernel
theorem dL_person_18 : decode cL_person 18 = .ok (.ireturn, 1) := by decide +kernel
theorem dX9_parcel_0 : decode cX9_parcel 0 = .ok (.aload_n 0, 1) := by decide +kernel
theorem dX9_parcel_1 : decode cX9_parcel 1 = .ok (.iconst 2, 1) := by decide +kernel
theorem dX9_parcel_2 : decode cX9_parcel 2 = .ok (.iload_n 1, 1) := by decide +kernel
theorem dX9_parcel_3 : decode cX9_parcel 3 = .ok (.invokevirtual 124, 3) := by decide +kernel
theorem dX9_parcel_6 : decode cX9_parcel 6 = .ok (.ifCond .ne 13, 3) := by decide +kernel
theorem dX9_parcel_9 : decode cX9_parcel 9 = .ok (.new 132, 3) := by decide +kernel
theorem dX9_parcel_12 : decode cX9_parcel 12 = .ok (.dup, 1) := by decide +kernel
theorem dX9_parcel_13 : decode cX9_parcel 13 = .ok (.ldc 134, 2) := by decide +kernel
theorem dX9_parcel_15 : decode cX9_parcel 15 = .ok (.invokespecial 136, 3) := by decide +kernel
theorem dX9_parcel_18 : decode cX9_parcel 18 = .ok (.athrow, 1) := by decide +kernel
theorem dX9_parcel_19 : decode cX9_parcel 19 = .ok (.iload_n 2, 1) := by decide +kernel
theorem dX9_parcel_20 : decode cX9_parcel 20 = .ok (.tableswitch 111 0 6 #[44, 53, 63, 72, 82, 92, 102], 44) := by decide +kernel
theorem dX9_parcel_64 : decode cX9_parcel 64 = .ok (.aload_n 0, 1) := by decide +kernel
theorem dX9_parcel_65 : decode cX9_parcel 65 = .ok (.getfield 65, 3) := by decide +kernel
theorem dX9_parcel_68 : decode cX9_parcel 68 = .ok (.iload_n 1, 1) := by decide +kernel
theorem dX9_parcel_69 : decode cX9_parcel 69 = .ok (.invokevirtual 139, 3) := by decide +kernel
theorem dX9_parcel_72 : decode cX9_parcel 72 = .ok (.ireturn, 1) := by decide +kernel
theorem dX9_parcel_73 : decode cX9_parcel 73 = .ok (.aload_n 0, 1) := by decide +kernel
theorem dX9_parcel_74 : decode cX9_parcel 74 = .ok (.getfield 65, 3) := by decide +kernel
theorem dX9_parcel_77 : decode cX9_parcel 77 = .ok (.getfield 143, 3) := by decide +kernel
theorem dX9_parcel_80 : decode cX9_parcel 80 = .ok (.iload_n 1, 1) := by decide +kernel
theorem dX9_parcel_81 : decode cX9_parcel 81 = .ok (.iaload, 1) := by decide +kernel
theorem dX9_parcel_82 : decode cX9_parcel 82 = .ok (.ireturn, 1) := by decide +kernel
theorem dX9_parcel_83 : decode cX9_parcel 83 = .ok (.aload_n 0, 1) := by decide +kernel
theorem dX9_parcel_84 : decode cX9_parcel 84 = .ok (.getfield 65, 3) := by decide +kernel
theorem dX9_parcel_87 : decode cX9_parcel 87 = .ok (.iload_n 1, 1) := by decide +kernel
theorem dX9_parcel_88 : decode cX9_parcel 88 = .ok (.invokevirtual 146, 3) := by decide +kernel
theorem dX9_parcel_91 : decode cX9_parcel 91 = .ok (.ireturn, 1) := by decide +kernel
theorem dX9_parcel_92 : decode cX9_parcel 92 = .ok (.aload_n 0, 1) := by decide +kernel
theorem dX9_parcel_93 : decode cX9_parcel 93 = .ok (.getfield 65, 3) := by decide +kernel
theorem dX9_parcel_96 : decode cX9_parcel 96 = .ok (.getfield 149, 3) := by decide +kernel
theorem dX9_parcel_99 : decode cX9_parcel 99 = .ok (.iload_n 1, 1) := by decide +kernel
theorem dX9_parcel_100 : decode cX9_parcel 100 = .ok (.iaload, 1) := by decide +kernel
theorem dX9_parcel_101 : decode cX9_parcel 101 = .ok (.ireturn, 1) := by decide +kernel
theorem dX9_parcel_102 : decode cX9_parcel 102 = .ok (.aload_n 0, 1) := by decide +kernel
theorem dX9_parcel_103 : decode cX9_parcel 103 = .ok (.getfield 65, 3) := by decide +kernel
theorem dX9_parcel_106 : decode cX9_parcel 106 = .ok (.getfield 152, 3) := by decide +kernel
theorem dX9_parcel_109 : decode cX9_parcel 109 = .ok (.iload_n 1, 1) := by decide +kernel
theorem dX9_parcel_110 : decode cX9_parcel 110 = .ok (.iaload, 1) := by decide +kernel
theorem dX9_parcel_111 : decode cX9_parcel 111 = .ok (.ireturn, 1) := by decide +kernel
theorem dX9_parcel_112 : decode cX9_parcel 112 = .ok (.aload_n 0, 1) := by decide +kernel
theorem dX9_parcel_113 : decode cX9_parcel 113 = .ok (.getfield 65, 3) := by decide +kernel
theorem dX9_parcel_116 : decode cX9_parcel 116 = .ok (.getfield 155, 3) := by decide +kernel
theorem dX9_parcel_119 : decode cX9_parcel 119 = .ok (.iload_n 1, 1) := by decide +kernel
theorem dX9_parcel_120 : decode cX9_parcel 120 = .ok (.iaload, 1) := by decide +kernel
theorem dX9_parcel_121 : decode cX9_parcel 121 = .ok (.ireturn, 1) := by decide +kernel
theorem dX9_parcel_122 : decode cX9_parcel 122 = .ok (.aload_n 0, 1) := by decide +kernel
theorem dX9_parcel_123 : decode cX9_parcel 123 = .ok (.getfield 65, 3) := by decide +kernel
theorem dX9_parcel_126 : decode cX9_parcel 126 = .ok (.iload_n 1, 1) := by decide +kernel
theorem dX9_parcel_127 : decode cX9_parcel 127 = .ok (.invokevirtual 158, 3) := by decide +kernel
theorem dX9_parcel_130 : decode cX9_parcel 130 = .ok (.ireturn, 1) := by decide +kernel
theorem dX9_parcel_131 : decode cX9_parcel 131 = .ok (.new 132, 3) := by decide +kernel
theorem dX9_parcel_134 : decode cX9_parcel 134 = .ok (.dup, 1) := by decide +kernel
theorem dX9_parcel_135 : decode cX9_parcel 135 = .ok (.ldc 161, 2) := by decide +kernel
theorem dX9_parcel_137 : decode cX9_parcel 137 = .ok (.invokespecial 136, 3) := by decide +kernel
theorem dX9_parcel_140 : decode cX9_parcel 140 = .ok (.athrow, 1) := by decide +kernel
theorem dX9_person_0 : decode cX9_person 0 = .ok (.aload_n 0, 1) := by decide +kernel
theorem dX9_person_1 : decode cX9_person 1 = .ok (.iconst 3, 1) := by decide +kernel
theorem dX9_person_2 : decode cX9_person 2 = .ok (.iload_n 1, 1) := by decide +kernel
theorem dX9_person_3 : decode cX9_person 3 = .ok (.invokevirtual 124, 3) := by decide +kernel
theorem dX9_person_6 : decode cX9_person 6 = .ok (.ifCond .ne 13, 3) := by decide +kernel
theorem dX9_person_9 : decode cX9_person 9 = .ok (.new 132, 3) := by decide +kernel
theorem dX9_person_12 : decode cX9_person 12 = .ok (.dup, 1) := by decide +kernel
theorem dX9_person_13 : decode cX9_person 13 = .ok (.ldc 163, 2) := by decide +kernel
theorem dX9_person_15 : decode cX9_person 15 = .ok (.invokespecial 136, 3) := by decide +kernel
theorem dX9_person_18 : decode cX9_person 18 = .ok (.athrow, 1) := by decide +kernel
theorem dX9_person_19 : decode cX9_person 19 = .ok (.iload_n 2, 1) := by decide +kernel
theorem dX9_person_20 : decode cX9_person 20 = .ok (.tableswitch 89 0 4 #[36, 46, 59, 69, 79], 36) := by decide +kernel
theorem dX9_person_56 : decode cX9_person 56 = .ok (.aload_n 0, 1) := by decide +kernel
theorem dX9_person_57 : decode cX9_person 57 = .ok (.getfield 65, 3) := by decide +kernel
theorem dX9_person_60 : decode cX9_person 60 = .ok (.getfield 165, 3) := by decide +kernel
theorem dX9_person_63 : decode cX9_person 63 = .ok (.iload_n 1, 1) := by decide +kernel
theorem dX9_person_64 : decode cX9_person 64 = .ok (.iaload, 1) := by decide +kernel
theorem dX9_person_65 : decode cX9_person 65 = .ok (.ireturn, 1) := by decide +kernel
theorem dX9_person_66 : decode cX9_person 66 = .ok (.aload_n 0, 1) := by decide +kernel
theorem dX9_person_67 : decode cX9_person 67 = .ok (.getfield 65, 3) := by decide +kernel
theorem dX9_person_70 : decode cX9_person 70 = .ok (.getfield 168, 3) := by decide +kernel
theorem dX9_person_73 : decode cX9_person 73 = .ok (.getfield 172, 3) := by decide +kernel
theorem dX9_person_76 : decode cX9_person 76 = .ok (.iload_n 1, 1) := by decide +kernel
theorem dX9_person_77 : decode cX9_person 77 = .ok (.iaload, 1) := by decide +kernel
theorem dX9_person_78 : decode cX9_person 78 = .ok (.ireturn, 1) := by decide +kernel
theorem dX9_person_79 : decode cX9_person 79 = .ok (.aload_n 0, 1) := by decide +kernel
theorem dX9_person_80 : decode cX9_person 80 = .ok (.getfield 65, 3) := by decide +kernel
theorem dX9_person_83 : decode cX9_person 83 = .ok (.getfield 175, 3) := by decide +kernel
theorem dX9_person_86 : decode cX9_person 86 = .ok (.iload_n 1, 1) := by decide +kernel
theorem dX9_person_87 : decode cX9_person 87 = .ok (.iaload, 1) := by decide +kernel
theorem dX9_person_88 : decode cX9_person 88 = .ok (.ireturn, 1) := by decide +kernel
theorem dX9_person_89 : decode cX9_person 89 = .ok (.aload_n 0, 1) := by decide +kernel
theorem dX9_person_90 : decode cX9_person 90 = .ok (.getfield 65, 3) := by decide +kernel
theorem dX9_person_93 : decode cX9_person 93 = .ok (.getfield 178, 3) := by decide +kernel
theorem dX9_person_96 : decode cX9_person 96 = .ok (.iload_n 1, 1) := by decide +kernel
theorem dX9_person_97 : decode cX9_person 97 = .ok (.iaload, 1) := by decide +kernel
theorem dX9_person_98 : decode cX9_person 98 = .ok (.ireturn, 1) := by decide +kernel
theorem dX9_person_99 : decode cX9_person 99 = .ok (.aload_n 0, 1) := by decide +kernel
theorem dX9_person_100 : decode cX9_person 100 = .ok (.getfield 65, 3) := by decide +kernel
theorem dX9_person_103 : decode cX9_person 103 = .ok (.getfield 181, 3) := by decide +kernel
theorem dX9_person_106 : decode cX9_person 106 = .ok (.iload_n 1, 1) := by decide +kernel
theorem dX9_person_107 : decode cX9_person 107 = .ok (.iaload, 1) := by decide +kernel
theorem dX9_person_108 : decode cX9_person 108 = .ok (.ireturn, 1) := by decide +kernel
theorem dX9_person_109 : decode cX9_person 109 = .ok (.new 132, 3) := by decide +kernel
theorem dX9_person_112 : decode cX9_person 112 = .ok (.dup, 1) := by decide +kernel
theorem dX9_person_113 : decode cX9_person 113 = .ok (.ldc 184, 2) := by decide +kernel
theorem dX9_person_115 : decode cX9_person 115 = .ok (.invokespecial 136, 3) := by decide +kernel
theorem dX9_person_118 : decode cX9_person 118 = .ok (.athrow, 1) := by decide +kernel
