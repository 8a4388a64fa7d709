theorem tw_1153 : Cond.fieldLink RX10 (104 : Nat) "WonderParcelsModel" "kept" "[I" ∈ gT := gT_t (List.mem_of_getElem? (i := 1153) (by decide +kernel)) (by decide +kernel)
theorem tw_1159 : Cond.fieldLink RX10 (123 : Nat) "WonderParcelsModel" "keptName" "[J" ∈ gT := gT_t (List.mem_of_getElem? (i := 1159) (by decide +kernel)) (by decide +kernel)
theorem tw_1160 : Cond.fieldLink RX10 (126 : Nat) "WonderParcelsModel" "isKept" "[Z" ∈ gT := gT_t (List.mem_of_getElem? (i := 1160) (by decide +kernel)) (by decide +kernel)
theorem tw_1168 : Cond.fieldLink RX10 (148 : Nat) "WonderParcelsModel" "placing" "[I" ∈ gT := gT_t (List.mem_of_getElem? (i := 1168) (by decide +kernel)) (by decide +kernel)
theorem tw_1290 : Cond.methodLink RX10 (234 : Nat) yX10_begin ∈ gT := gT_t (List.mem_of_getElem? (i := 1290) (by decide +kernel)) (by decide +kernel)
theorem tw_1292 : Cond.instanceMethod yX10_begin ∈ gT := gT_t (List.mem_of_getElem? (i := 1292) (by decide +kernel)) (by decide +kernel)
theorem tw_1293 : Cond.code yX10_begin cX10_begin 2 none ∈ gT := gT_t (List.mem_of_getElem? (i := 1293) (by decide +kernel)) (by decide +kernel)
theorem tw_1314 : Cond.methodLink RX10 (237 : Nat) yX10_readLine ∈ gT := gT_t (List.mem_of_getElem? (i := 1314) (by decide +kernel)) (by decide +kernel)
theorem tw_1316 : Cond.instanceMethod yX10_readLine ∈ gT := gT_t (List.mem_of_getElem? (i := 1316) (by decide +kernel)) (by decide +kernel)
theorem tw_1317 : Cond.code yX10_readLine cX10_readLine 1 (some .boolean) ∈ gT := gT_t (List.mem_of_getElem? (i := 1317) (by decide +kernel)) (by decide +kernel)
theorem tw_1409 : Cond.methodLink RX10 (240 : Nat) yX10_readEnd ∈ gT := gT_t (List.mem_of_getElem? (i := 1409) (by decide +kernel)) (by decide +kernel)
theorem tw_1411 : Cond.instanceMethod yX10_readEnd ∈ gT := gT_t (List.mem_of_getElem? (i := 1411) (by decide +kernel)) (by decide +kernel)
theorem tw_1412 : Cond.code yX10_readEnd cX10_readEnd 1 (some .boolean) ∈ gT := gT_t (List.mem_of_getElem? (i := 1412) (by decide +kernel)) (by decide +kernel)
theorem tw_1417 : Cond.methodLink RX10 (243 : Nat) yX10_startSo ∈ gT := gT_t (List.mem_of_getElem? (i := 1417) (by decide +kernel)) (by decide +kernel)
theorem tw_1419 : Cond.instanceMethod yX10_startSo ∈ gT := gT_t (List.mem_of_getElem? (i := 1419) (by decide +kernel)) (by decide +kernel)
theorem tw_1420 : Cond.code yX10_startSo cX10_startSo 2 none ∈ gT := gT_t (List.mem_of_getElem? (i := 1420) (by decide +kernel)) (by decide +kernel)
theorem tw_1634 : Cond.methodLink RX10 (349 : Nat) yX10_placeFrom ∈ gT := gT_t (List.mem_of_getElem? (i := 1634) (by decide +kernel)) (by decide +kernel)
theorem tw_1636 : Cond.instanceMethod yX10_placeFrom ∈ gT := gT_t (List.mem_of_getElem? (i := 1636) (by decide +kernel)) (by decide +kernel)
theorem tw_1637 : Cond.code yX10_placeFrom cX10_placeFrom 6 (some .boolean) ∈ gT := gT_t (List.mem_of_getElem? (i := 1637) (by decide +kernel)) (by decide +kernel)
theorem tw_1638 : Cond.methodLink RX10 (346 : Nat) yX10_doQuarrel ∈ gT := gT_t (List.mem_of_getElem? (i := 1638) (by decide +kernel)) (by decide +kernel)
theorem tw_1640 : Cond.instanceMethod yX10_doQuarrel ∈ gT := gT_t (List.mem_of_getElem? (i := 1640) (by decide +kernel)) (by decide +kernel)
theorem tw_1641 : Cond.code yX10_doQuarrel cX10_doQuarrel 5 (some .boolean) ∈ gT := gT_t (List.mem_of_getElem? (i := 1641) (by decide +kernel)) (by decide +kernel)
theorem ts_38 : Cond.selects RX10 yX10_begin yX10_begin ∈ gT := gT_s (by decide +kernel) (by decide +kernel)
theorem ts_42 : Cond.selects RX10 yX10_readLine yX10_readLine ∈ gT := gT_s (by decide +kernel) (by decide +kernel)
theorem ts_62 : Cond.selects RX10 yX10_readEnd yX10_readEnd ∈ gT := gT_s (by decide +kernel) (by decide +kernel)
theorem ts_64 : Cond.selects RX10 yX10_startSo yX10_startSo ∈ gT := gT_s (by decide +kernel) (by decide +kernel)
theorem ts_93 : Cond.selects RX10 yX10_placeFrom yX10_placeFrom ∈ gT := gT_s (by decide +kernel) (by decide +kernel)
theorem ts_94 : Cond.selects RX10 yX10_doQuarrel yX10_doQuarrel ∈ gT := gT_s (by decide +kernel) (by decide +kernel)
theorem dX10_begin_0 : decode cX10_begin 0 = .ok (.aload_n 0, 1) := by decide +kernel
theorem dX10_begin_1 : decode cX10_begin 1 = .ok (.iconst 0, 1) := by decide +kernel
theorem dX10_begin_2 : decode cX10_begin 2 = .ok (.putfield 1, 3) := by decide +kernel
theorem dX10_begin_5 : decode cX10_begin 5 = .ok (.aload_n 0, 1) := by decide +kernel
theorem dX10_begin_6 : decode cX10_begin 6 = .ok (.aload_n 0, 1) := by decide +kernel
theorem dX10_begin_7 : decode cX10_begin 7 = .ok (.invokevirtual 89, 3) := by decide +kernel
theorem dX10_begin_10 : decode cX10_begin 10 = .ok (.putfield 18, 3) := by decide +kernel
theorem dX10_begin_13 : decode cX10_begin 13 = .ok (.aload_n 0, 1) := by decide +kernel
theorem dX10_begin_14 : decode cX10_begin 14 = .ok (.iload_n 1, 1) := by decide +kernel
theorem dX10_begin_15 : decode cX10_begin 15 = .ok (.putfield 27, 3) := by decide +kernel
theorem dX10_begin_18 : decode cX10_begin 18 = .ok (.aload_n 0, 1) := by decide +kernel
theorem dX10_begin_19 : decode cX10_begin 19 = .ok (.iconst 0, 1) := by decide +kernel
theorem dX10_begin_20 : decode cX10_begin 20 = .ok (.putfield 66, 3) := by decide +kernel
theorem dX10_begin_23 : decode cX10_begin 23 = .ok (.aload_n 0, 1) := by decide +kernel
theorem dX10_begin_24 : decode cX10_begin 24 = .ok (.iconst 0, 1) := by decide +kernel
theorem dX10_begin_25 : decode cX10_begin 25 = .ok (.putfield 21, 3) := by decide +kernel
theorem dX10_begin_28 : decode cX10_begin 28 = .ok (.aload_n 0, 1) := by decide +kernel
theorem dX10_begin_29 : decode cX10_begin 29 = .ok (.invokevirtual 82, 3) := by decide +kernel
theorem dX10_begin_32 : decode cX10_begin 32 = .ok (.return_, 1) := by decide +kernel
theorem dX10_doQuarrel_0 : decode cX10_doQuarrel 0 = .ok (.aload_n 0, 1) := by decide +kernel
theorem dX10_doQuarrel_1 : decode cX10_doQuarrel 1 = .ok (.iload_n 1, 1) := by decide +kernel
theorem dX10_doQuarrel_2 : decode cX10_doQuarrel 2 = .ok (.invokevirtual 253, 3) := by decide +kernel
theorem dX10_doQuarrel_5 : decode cX10_doQuarrel 5 = .ok (.istore_n 3, 1) := by decide +kernel
theorem dX10_doQuarrel_6 : decode cX10_doQuarrel 6 = .ok (.aload_n 0, 1) := by decide +kernel
theorem dX10_doQuarrel_7 : decode cX10_doQuarrel 7 = .ok (.iload_n 2, 1) := by decide +kernel
theorem dX10_doQuarrel_8 : decode cX10_doQuarrel 8 = .ok (.invokevirtual 253, 3) := by decide +kernel
theorem dX10_doQuarrel_11 : decode cX10_doQuarrel 11 = .ok (.istore 4, 2) := by decide +kernel
theorem dX10_doQuarrel_13 : decode cX10_doQuarrel 13 = .ok (.iload_n 3, 1) := by decide +kernel
theorem dX10_doQuarrel_14 : decode cX10_doQuarrel 14 = .ok (.iconst (-1), 1) := by decide +kernel
theorem dX10_doQuarrel_15 : decode cX10_doQuarrel 15 = .ok (.if_icmp .eq 30, 3) := by decide +kernel
theorem dX10_doQuarrel_18 : decode cX10_doQuarrel 18 = .ok (.iload 4, 2) := by decide +kernel
theorem dX10_doQuarrel_20 : decode cX10_doQuarrel 20 = .ok (.iconst (-1), 1) := by decide +kernel
theorem dX10_doQuarrel_21 : decode cX10_doQuarrel 21 = .ok (.if_icmp .eq 24, 3) := by decide +kernel
theorem dX10_doQuarrel_24 : decode cX10_doQuarrel 24 = .ok (.aload_n 0, 1) := by decide +kernel
theorem dX10_doQuarrel_25 : decode cX10_doQuarrel 25 = .ok (.getfield 98, 3) := by decide +kernel
theorem dX10_doQuarrel_28 : decode cX10_doQuarrel 28 = .ok (.bipush 12, 2) := by decide +kernel
theorem dX10_doQuarrel_30 : decode cX10_doQuarrel 30 = .ok (.iload_n 3, 1) := by decide +kernel
theorem dX10_doQuarrel_31 : decode cX10_doQuarrel 31 = .ok (.iadd, 1) := by decide +kernel
theorem dX10_doQuarrel_32 : decode cX10_doQuarrel 32 = .ok (.iaload, 1) := by decide +kernel
theorem dX10_doQuarrel_33 : decode cX10_doQuarrel 33 = .ok (.iload 4, 2) := by decide +kernel
theorem dX10_doQuarrel_35 : decode cX10_doQuarrel 35 = .ok (.invokestatic 203, 3) := by decide +kernel
theorem dX10_doQuarrel_38 : decode cX10_doQuarrel 38 = .ok (.ifCond .eq 7, 3) := by decide +kernel
theorem dX10_doQuarrel_41 : decode cX10_doQuarrel 41 = .ok (.iconst 1, 1) := by decide +kernel
theorem dX10_doQuarrel_42 : decode cX10_doQuarrel 42 = .ok (.goto 4, 3) := by decide +kernel
theorem dX10_doQuarrel_45 : decode cX10_doQuarrel 45 = .ok (.iconst 0, 1) := by decide +kernel
theorem dX10_doQuarrel_46 : decode cX10_doQuarrel 46 = .ok (.ireturn, 1) := by decide +kernel
theorem dX10_image_0 : decode cX10_image 0 = .ok (.aload_n 0, 1) := by decide +kernel
theorem dX10_image_1 : decode cX10_image 1 = .ok (.iconst 0, 1) := by decide +kernel
theorem dX10_image_2 : decode cX10_image 2 = .ok (.putfield 1, 3) := by decide +kernel
theorem dX10_image_5 : decode cX10_image 5 = .ok (.iload_n 1, 1) := by decide +kernel
theorem dX10_image_6 : decode cX10_image 6 = .ok (.iconst 0, 1) := by decide +kernel
theorem dX10_image_7 : decode cX10_image 7 = .ok (.iconst 1, 1) := by decide +kernel
theorem dX10_image_8 : decode cX10_image 8 = .ok (.invokestatic 75, 3) := by decide +kernel
theorem dX10_image_11 : decode cX10_image 11 = .ok (.ifCond .ne 5, 3) := by decide +kernel
theorem dX10_image_14 : decode cX10_image 14 = .ok (.iconst 0, 1) := by decide +kernel
theorem dX10_image_15 : decode cX10_image 15 = .ok (.ireturn, 1) := by decide +kernel
theorem dX10_image_16 : decode cX10_image 16 = .ok (.iconst 0, 1) := by decide +kernel
theorem dX10_image_17 : decode cX10_image 17 = .ok (.istore_n 2, 1) := by decide +kernel
theorem dX10_image_18 : decode cX10_image 18 = .ok (.iload_n 2, 1) := by decide +kernel
theorem dX10_image_19 : decode cX10_image 19 = .ok (.sipush 414, 3) := by decide +kernel
theorem dX10_image_22 : decode cX10_image 22 = .ok (.if_icmp .ge 27, 3) := by decide +kernel
theorem dX10_image_25 : decode cX10_image 25 = .ok (.aload_n 0, 1) := by decide +kernel
theorem dX10_image_26 : decode cX10_image 26 = .ok (.getfield 104, 3) := by decide +kernel
theorem dX10_image_29 : decode cX10_image 29 = .ok (.sipush 414, 3) := by decide +kernel
theorem dX10_image_32 : decode cX10_image 32 = .ok (.iload_n 1, 1) := by decide +kernel
theorem dX10_image_33 : decode cX10_image 33 = .ok (.imul, 1) := by decide +kernel
theorem dX10_image_34 : decode cX10_image 34 = .ok (.iload_n 2, 1) := by decide +kernel
theorem dX10_image_35 : decode cX10_image 35 = .ok (.iadd, 1) := by decide +kernel
theorem dX10_image_36 : decode cX10_image 36 = .ok (.aload_n 0, 1) := by decide +kernel
theorem dX10_image_37 : decode cX10_image 37 = .ok (.getfield 98, 3) := by decide +kernel
theorem dX10_image_40 : decode cX10_image 40 = .ok (.iload_n 2, 1) := by decide +kernel
theorem dX10_image_41 : decode cX10_image 41 = .ok (.iaload, 1) := by decide +kernel
theorem dX10_image_42 : decode cX10_image 42 = .ok (.iastore, 1) := by decide +kernel
theorem dX10_image_43 : decode cX10_image 43 = .ok (.iinc 2 1, 3) := by decide +kernel
theorem dX10_image_46 : decode cX10_image 46 = .ok (.goto (-28), 3) := by decide +kernel
theorem dX10_image_49 : decode cX10_image 49 = .ok (.iconst 0, 1) := by decide +kernel
theorem dX10_image_50 : decode cX10_image 50 = .ok (.istore_n 2, 1) := by decide +kernel
theorem dX10_image_51 : decode cX10_image 51 = .ok (.iload_n 2, 1) := by decide +kernel
theorem dX10_image_52 : decode cX10_image 52 = .ok (.bipush 24, 2) := by decide +kernel
theorem dX10_image_54 : decode cX10_image 54 = .ok (.if_icmp .ge 26, 3) := by decide +kernel
theorem dX10_image_57 : decode cX10_image 57 = .ok (.aload_n 0, 1) := by decide +kernel
theorem dX10_image_58 : decode cX10_image 58 = .ok (.getfield 123, 3) := by decide +kernel
theorem dX10_image_61 : decode cX10_image 61 = .ok (.bipush 24, 2) := by decide +kernel
theorem dX10_image_63 : decode cX10_image 63 = .ok (.iload_n 1, 1) := by decide +kernel
theorem dX10_image_64 : decode cX10_image 64 = .ok (.imul, 1) := by decide +kernel
theorem dX10_image_65 : decode cX10_image 65 = .ok (.iload_n 2, 1) := by decide +kernel
theorem dX10_image_66 : decode cX10_image 66 = .ok (.iadd, 1) := by decide +kernel
theorem dX10_image_67 : decode cX10_image 67 = .ok (.aload_n 0, 1) := by decide +kernel
theorem dX10_image_68 : decode cX10_image 68 = .ok (.getfield 116, 3) := by decide +kernel
theorem dX10_image_71 : decode cX10_image 71 = .ok (.iload_n 2, 1) := by decide +kernel
theorem dX10_image_72 : decode cX10_image 72 = .ok (.laload, 1) := by decide +kernel
theorem dX10_image_73 : decode cX10_image 73 = .ok (.lastore, 1) := by decide +kernel
theorem dX10_image_74 : decode cX10_image 74 = .ok (.iinc 2 1, 3) := by decide +kernel
theorem dX10_image_77 : decode cX10_image 77 = .ok (.goto (-26), 3) := by decide +kernel
theorem dX10_image_80 : decode cX10_image 80 = .ok (.aload_n 0, 1) := by decide +kernel
theorem dX10_image_81 : decode cX10_image 81 = .ok (.getfield 126, 3) := by decide +kernel
theorem dX10_image_84 : decode cX10_image 84 = .ok (.iload_n 1, 1) := by decide +kernel
theorem dX10_image_85 : decode cX10_image 85 = .ok (.iconst 1, 1) := by decide +kernel
theorem dX10_image_86 : decode cX10_image 86 = .ok (.bastore, 1) := by decide +kernel
theorem dX10_image_87 : decode cX10_image 87 = .ok (.iconst 1, 1) := by decide +kernel
theorem dX10_image_88 : decode cX10_image 88 = .ok (.ireturn, 1) := by decide +kernel
theorem dX10_let_0 : decode cX10_let 0 = .ok (.aload_n 0, 1) := by decide +kernel
theorem dX10_let_1 : decode cX10_let 1 = .ok (.iconst 0, 1) := by decide +kernel
theorem dX10_let_2 : decode cX10_let 2 = .ok (.putfield 1, 3) := by decide +kernel
theorem dX10_let_5 : decode cX10_let 5 = .ok (.aload_n 0, 1) := by decide +kernel
theorem dX10_let_6 : decode cX10_let 6 = .ok (.iload_n 1, 1) := by decide +kernel
theorem dX10_let_7 : decode cX10_let 7 = .ok (.invokevirtual 256, 3) := by decide +kernel
theorem dX10_let_10 : decode cX10_let 10 = .ok (.ifCond .ne 5, 3) := by decide +kernel
theorem dX10_let_13 : decode cX10_let 13 = .ok (.iconst (-1), 1) := by decide +kernel
theorem dX10_let_14 : decode cX10_let 14 = .ok (.ireturn, 1) := by decide +kernel
theorem dX10_let_15 : decode cX10_let 15 = .ok (.aload_n 0, 1) := by decide +kernel
theorem dX10_let_16 : decode cX10_let 16 = .ok (.invokevirtual 334, 3) := by decide +kernel
theorem dX10_let_19 : decode cX10_let 19 = .ok (.iconst 0, 1) := by decide +kernel
theorem dX10_let_20 : decode cX10_let 20 = .ok (.istore_n 2, 1) := by decide +kernel
theorem dX10_let_21 : decode cX10_let 21 = .ok (.aload_n 0, 1) := by decide +kernel
theorem dX10_let_22 : decode cX10_let 22 = .ok (.iload_n 1, 1) := by decide +kernel
theorem dX10_let_23 : decode cX10_let 23 = .ok (.invokevirtual 253, 3) := by decide +kernel
theorem dX10_let_26 : decode cX10_let 26 = .ok (.iconst (-1), 1) := by decide +kernel
theorem dX10_let_27 : decode cX10_let 27 = .ok (.if_icmp .eq 19, 3) := by decide +kernel
theorem dX10_let_30 : decode cX10_let 30 = .ok (.aload_n 0, 1) := by decide +kernel
theorem dX10_let_31 : decode cX10_let 31 = .ok (.iload_n 1, 1) := by decide +kernel
theorem dX10_let_32 : decode cX10_let 32 = .ok (.aload_n 0, 1) := by decide +kernel
theorem dX10_let_33 : decode cX10_let 33 = .ok (.iload_n 1, 1) := by decide +kernel
theorem dX10_let_34 : decode cX10_let 34 = .ok (.invokevirtual 253, 3) := by decide +kernel
theorem dX10_let_37 : decode cX10_let 37 = .ok (.invokevirtual 286, 3) := by decide +kernel
theorem dX10_let_40 : decode cX10_let 40 = .ok (.iinc 2 1, 3) := by decide +kernel
theorem dX10_let_43 : decode cX10_let 43 = .ok (.goto (-22), 3) := by decide +kernel
theorem dX10_let_46 : decode cX10_let 46 = .ok (.aload_n 0, 1) := by decide +kernel
theorem dX10_let_47 : decode cX10_let 47 = .ok (.invokevirtual 337, 3) := by decide +kernel
theorem dX10_let_50 : decode cX10_let 50 = .ok (.iload_n 2, 1) := by decide +kernel
theorem dX10_let_51 : decode cX10_let 51 = .ok (.ireturn, 1) := by decide +kernel
theorem dX10_placeFrom_0 : decode cX10_placeFrom 0 = .ok (.iload_n 1, 1) := by decide +kernel
theorem dX10_placeFrom_1 : decode cX10_placeFrom 1 = .ok (.aload_n 0, 1) := by decide +kernel
theorem dX10_placeFrom_2 : decode cX10_placeFrom 2 = .ok (.getfield 98, 3) := by decide +kernel
theorem dX10_placeFrom_5 : decode cX10_placeFrom 5 = .ok (.iconst 2, 1) := by decide +kernel
theorem dX10_placeFrom_6 : decode cX10_placeFrom 6 = .ok (.iaload, 1) := by decide +kernel
theorem dX10_placeFrom_7 : decode cX10_placeFrom 7 = .ok (.if_icmp .ne 5, 3) := by decide +kernel
theorem dX10_placeFrom_10 : decode cX10_placeFrom 10 = .ok (.iconst 1, 1) := by decide +kernel
theorem dX10_placeFrom_11 : decode cX10_placeFrom 11 = .ok (.ireturn, 1) := by decide +kernel
theorem dX10_placeFrom_12 : decode cX10_placeFrom 12 = .ok (.iconst 0, 1) := by decide +kernel
theorem dX10_placeFrom_13 : decode cX10_placeFrom 13 = .ok (.istore_n 3, 1) := by decide +kernel
theorem dX10_placeFrom_14 : decode cX10_placeFrom 14 = .ok (.iload_n 3, 1) := by decide +kernel
theorem dX10_placeFrom_15 : decode cX10_placeFrom 15 = .ok (.iload_n 2, 1) := by decide +kernel
theorem dX10_placeFrom_16 : decode cX10_placeFrom 16 = .ok (.if_icmp .ge 79, 3) := by decide +kernel
theorem dX10_placeFrom_19 : decode cX10_placeFrom 19 = .ok (.iconst 1, 1) := by decide +kernel
theorem dX10_placeFrom_20 : decode cX10_placeFrom 20 = .ok (.istore 4, 2) := by decide +kernel
theorem dX10_placeFrom_22 : decode cX10_placeFrom 22 = .ok (.iconst 0, 1) := by decide +kernel
theorem dX10_placeFrom_23 : decode cX10_placeFrom 23 = .ok (.istore 5, 2) := by decide +kernel
theorem dX10_placeFrom_25 : decode cX10_placeFrom 25 = .ok (.iload 5, 2) := by decide +kernel
theorem dX10_placeFrom_27 : decode cX10_placeFrom 27 = .ok (.iload_n 1, 1) := by decide +kernel
theorem dX10_placeFrom_28 : decode cX10_placeFrom 28 = .ok (.if_icmp .ge 33, 3) := by decide +kernel
theorem dX10_placeFrom_31 : decode cX10_placeFrom 31 = .ok (.aload_n 0, 1) := by decide +kernel
theorem dX10_placeFrom_32 : decode cX10_placeFrom 32 = .ok (.getfield 148, 3) := by decide +kernel
theorem dX10_placeFrom_35 : decode cX10_placeFrom 35 = .ok (.iload 5, 2) := by decide +kernel
theorem dX10_placeFrom_37 : decode cX10_placeFrom 37 = .ok (.iaload, 1) := by decide +kernel
theorem dX10_placeFrom_38 : decode cX10_placeFrom 38 = .ok (.iload_n 3, 1) := by decide +kernel
theorem dX10_placeFrom_39 : decode cX10_placeFrom 39 = .ok (.if_icmp .ne 16, 3) := by decide +kernel
theorem dX10_placeFrom_42 : decode cX10_placeFrom 42 = .ok (.aload_n 0, 1) := by decide +kernel
theorem dX10_placeFrom_43 : decode cX10_placeFrom 43 = .ok (.iload_n 1, 1) := by decide +kernel
theorem dX10_placeFrom_44 : decode cX10_placeFrom 44 = .ok (.iload 5, 2) := by decide +kernel
theorem dX10_placeFrom_46 : decode cX10_placeFrom 46 = .ok (.invokevirtual 346, 3) := by decide +kernel
theorem dX10_placeFrom_49 : decode cX10_placeFrom 49 = .ok (.ifCond .eq 6, 3) := by decide +kernel
theorem dX10_placeFrom_52 : decode cX10_placeFrom 52 = .ok (.iconst 0, 1) := by decide +kernel
theorem dX10_placeFrom_53 : decode cX10_placeFrom 53 = .ok (.istore 4, 2) := by decide +kernel
theorem dX10_placeFrom_55 : decode cX10_placeFrom 55 = .ok (.iinc 5 1, 3) := by decide +kernel
theorem dX10_placeFrom_58 : decode cX10_placeFrom 58 = .ok (.goto (-33), 3) := by decide +kernel
theorem dX10_placeFrom_61 : decode cX10_placeFrom 61 = .ok (.iload 4, 2) := by decide +kernel
theorem dX10_placeFrom_63 : decode cX10_placeFrom 63 = .ok (.ifCond .ne 6, 3) := by decide +kernel
theorem dX10_placeFrom_66 : decode cX10_placeFrom 66 = .ok (.goto 23, 3) := by decide +kernel
theorem dX10_placeFrom_69 : decode cX10_placeFrom 69 = .ok (.aload_n 0, 1) := by decide +kernel
theorem dX10_placeFrom_70 : decode cX10_placeFrom 70 = .ok (.getfield 148, 3) := by decide +kernel
theorem dX10_placeFrom_73 : decode cX10_placeFrom 73 = .ok (.iload_n 1, 1) := by decide +kernel
theorem dX10_placeFrom_74 : decode cX10_placeFrom 74 = .ok (.iload_n 3, 1) := by decide +kernel
theorem dX10_placeFrom_75 : decode cX10_placeFrom 75 = .ok (.iastore, 1) := by decide +kernel
theorem dX10_placeFrom_76 : decode cX10_placeFrom 76 = .ok (.aload_n 0, 1) := by decide +kernel
theorem dX10_placeFrom_77 : decode cX10_placeFrom 77 = .ok (.iload_n 1, 1) := by decide +kernel
theorem dX10_placeFrom_78 : decode cX10_placeFrom 78 = .ok (.iconst 1, 1) := by decide +kernel
theorem dX10_placeFrom_79 : decode cX10_placeFrom 79 = .ok (.iadd, 1) := by decide +kernel
theorem dX10_placeFrom_80 : decode cX10_placeFrom 80 = .ok (.iload_n 2, 1) := by decide +kernel
theorem dX10_placeFrom_81 : decode cX10_placeFrom 81 = .ok (.invokevirtual 349, 3) := by decide +kernel
theorem dX10_placeFrom_84 : decode cX10_placeFrom 84 = .ok (.ifCond .eq 5, 3) := by decide +kernel
theorem dX10_placeFrom_87 : decode cX10_placeFrom 87 = .ok (.iconst 1, 1) := by decide +kernel
theorem dX10_placeFrom_88 : decode cX10_placeFrom 88 = .ok (.ireturn, 1) := by decide +kernel
theorem dX10_placeFrom_89 : decode cX10_placeFrom 89 = .ok (.iinc 3 1, 3) := by decide +kernel
theorem dX10_placeFrom_92 : decode cX10_placeFrom 92 = .ok (.goto (-78), 3) := by decide +kernel
theorem dX10_placeFrom_95 : decode cX10_placeFrom 95 = .ok (.iconst 0, 1) := by decide +kernel
theorem dX10_placeFrom_96 : decode cX10_placeFrom 96 = .ok (.ireturn, 1) := by decide +kernel
theorem dX10_post_0 : decode cX10_post 0 = .ok (.aload_n 0, 1) := by decide +kernel
theorem dX10_post_1 : decode cX10_post 1 = .ok (.sipush 900, 3) := by decide +kernel
theorem dX10_post_4 : decode cX10_post 4 = .ok (.invokevirtual 234, 3) := by decide +kernel
theorem dX10_post_7 : decode cX10_post 7 = .ok (.iconst 0, 1) := by decide +kernel
theorem dX10_post_8 : decode cX10_post 8 = .ok (.istore_n 1, 1) := by decide +kernel
theorem dX10_post_9 : decode cX10_post 9 = .ok (.iload_n 1, 1) := by decide +kernel
theorem dX10_post_10 : decode cX10_post 10 = .ok (.bipush 84, 2) := by decide +kernel
theorem dX10_post_12 : decode cX10_post 12 = .ok (.if_icmp .ge 16, 3) := by decide +kernel
theorem dX10_post_15 : decode cX10_post 15 = .ok (.aload_n 0, 1) := by decide +kernel
theorem dX10_post_16 : decode cX10_post 16 = .ok (.getfield 101, 3) := by decide +kernel
theorem dX10_post_19 : decode cX10_post 19 = .ok (.iload_n 1, 1) := by decide +kernel
theorem dX10_post_20 : decode cX10_post 20 = .ok (.iconst 0, 1) := by decide +kernel
theorem dX10_post_21 : decode cX10_post 21 = .ok (.iastore, 1) := by decide +kernel
theorem dX10_post_22 : decode cX10_post 22 = .ok (.iinc 1 1, 3) := by decide +kernel
theorem dX10_post_25 : decode cX10_post 25 = .ok (.goto (-16), 3) := by decide +kernel
theorem dX10_post_28 : decode cX10_post 28 = .ok (.aload_n 0, 1) := by decide +kernel
theorem dX10_post_29 : decode cX10_post 29 = .ok (.getfield 130, 3) := by decide +kernel
theorem dX10_post_32 : decode cX10_post 32 = .ok (.iconst 0, 1) := by decide +kernel
theorem dX10_post_33 : decode cX10_post 33 = .ok (.iconst 0, 1) := by decide +kernel
theorem dX10_post_34 : decode cX10_post 34 = .ok (.bastore, 1) := by decide +kernel
theorem dX10_post_35 : decode cX10_post 35 = .ok (.aload_n 0, 1) := by decide +kernel
theorem dX10_post_36 : decode cX10_post 36 = .ok (.getfield 130, 3) := by decide +kernel
theorem dX10_post_39 : decode cX10_post 39 = .ok (.iconst 1, 1) := by decide +kernel
theorem dX10_post_40 : decode cX10_post 40 = .ok (.iconst 0, 1) := by decide +kernel
theorem dX10_post_41 : decode cX10_post 41 = .ok (.bastore, 1) := by decide +kernel
theorem dX10_post_42 : decode cX10_post 42 = .ok (.aload_n 0, 1) := by decide +kernel
theorem dX10_post_43 : decode cX10_post 43 = .ok (.getfield 101, 3) := by decide +kernel
theorem dX10_post_46 : decode cX10_post 46 = .ok (.iconst 5, 1) := by decide +kernel
theorem dX10_post_47 : decode cX10_post 47 = .ok (.iconst 5, 1) := by decide +kernel
theorem dX10_post_48 : decode cX10_post 48 = .ok (.iastore, 1) := by decide +kernel
theorem dX10_post_49 : decode cX10_post 49 = .ok (.iconst 0, 1) := by decide +kernel
theorem dX10_post_50 : decode cX10_post 50 = .ok (.istore_n 1, 1) := by decide +kernel
theorem dX10_post_51 : decode cX10_post 51 = .ok (.aload_n 0, 1) := by decide +kernel
theorem dX10_post_52 : decode cX10_post 52 = .ok (.getfield 30, 3) := by decide +kernel
theorem dX10_post_55 : decode cX10_post 55 = .ok (.ifCond .eq 30, 3) := by decide +kernel
theorem dX10_post_58 : decode cX10_post 58 = .ok (.aload_n 0, 1) := by decide +kernel
theorem dX10_post_59 : decode cX10_post 59 = .ok (.invokevirtual 237, 3) := by decide +kernel
theorem dX10_post_62 : decode cX10_post 62 = .ok (.ifCond .eq 10, 3) := by decide +kernel
theorem dX10_post_65 : decode cX10_post 65 = .ok (.aload_n 0, 1) := by decide +kernel
theorem dX10_post_66 : decode cX10_post 66 = .ok (.invokevirtual 240, 3) := by decide +kernel
theorem dX10_post_69 : decode cX10_post 69 = .ok (.ifCond .ne 10, 3) := by decide +kernel
theorem dX10_post_72 : decode cX10_post 72 = .ok (.iconst (-1), 1) := by decide +kernel
theorem dX10_post_73 : decode cX10_post 73 = .ok (.aload_n 0, 1) := by decide +kernel
theorem dX10_post_74 : decode cX10_post 74 = .ok (.getfield 69, 3) := by decide +kernel
theorem dX10_post_77 : decode cX10_post 77 = .ok (.isub, 1) := by decide +kernel
theorem dX10_post_78 : decode cX10_post 78 = .ok (.ireturn, 1) := by decide +kernel
theorem dX10_post_79 : decode cX10_post 79 = .ok (.iinc 1 1, 3) := by decide +kernel
theorem dX10_post_82 : decode cX10_post 82 = .ok (.goto (-31), 3) := by decide +kernel
theorem dX10_post_85 : decode cX10_post 85 = .ok (.iconst 0, 1) := by decide +kernel
theorem dX10_post_86 : decode cX10_post 86 = .ok (.istore_n 2, 1) := by decide +kernel
theorem dX10_post_87 : decode cX10_post 87 = .ok (.iload_n 2, 1) := by decide +kernel
theorem dX10_post_88 : decode cX10_post 88 = .ok (.bipush 84, 2) := by decide +kernel
theorem dX10_post_90 : decode cX10_post 90 = .ok (.if_icmp .ge 21, 3) := by decide +kernel
theorem dX10_post_93 : decode cX10_post 93 = .ok (.aload_n 0, 1) := by decide +kernel
theorem dX10_post_94 : decode cX10_post 94 = .ok (.getfield 98, 3) := by decide +kernel
theorem dX10_post_97 : decode cX10_post 97 = .ok (.iload_n 2, 1) := by decide +kernel
theorem dX10_post_98 : decode cX10_post 98 = .ok (.aload_n 0, 1) := by decide +kernel
theorem dX10_post_99 : decode cX10_post 99 = .ok (.getfield 101, 3) := by decide +kernel
theorem dX10_post_102 : decode cX10_post 102 = .ok (.iload_n 2, 1) := by decide +kernel
theorem dX10_post_103 : decode cX10_post 103 = .ok (.iaload, 1) := by decide +kernel
theorem dX10_post_104 : decode cX10_post 104 = .ok (.iastore, 1) := by decide +kernel
theorem dX10_post_105 : decode cX10_post 105 = .ok (.iinc 2 1, 3) := by decide +kernel
theorem dX10_post_108 : decode cX10_post 108 = .ok (.goto (-21), 3) := by decide +kernel
theorem dX10_post_111 : decode cX10_post 111 = .ok (.iconst 0, 1) := by decide +kernel
theorem dX10_post_112 : decode cX10_post 112 = .ok (.istore_n 2, 1) := by decide +kernel
theorem dX10_post_113 : decode cX10_post 113 = .ok (.iload_n 2, 1) := by decide +kernel
theorem dX10_post_114 : decode cX10_post 114 = .ok (.bipush 24, 2) := by decide +kernel
theorem dX10_post_116 : decode cX10_post 116 = .ok (.if_icmp .ge 21, 3) := by decide +kernel
theorem dX10_post_119 : decode cX10_post 119 = .ok (.aload_n 0, 1) := by decide +kernel
theorem dX10_post_120 : decode cX10_post 120 = .ok (.getfield 116, 3) := by decide +kernel
theorem dX10_post_123 : decode cX10_post 123 = .ok (.iload_n 2, 1) := by decide +kernel
theorem dX10_post_124 : decode cX10_post 124 = .ok (.aload_n 0, 1) := by decide +kernel
theorem dX10_post_125 : decode cX10_post 125 = .ok (.getfield 120, 3) := by decide +kernel
theorem dX10_post_128 : decode cX10_post 128 = .ok (.iload_n 2, 1) := by decide +kernel
theorem dX10_post_129 : decode cX10_post 129 = .ok (.laload, 1) := by decide +kernel
theorem dX10_post_130 : decode cX10_post 130 = .ok (.lastore, 1) := by decide +kernel
theorem dX10_post_131 : decode cX10_post 131 = .ok (.iinc 2 1, 3) := by decide +kernel
theorem dX10_post_134 : decode cX10_post 134 = .ok (.goto (-21), 3) := by decide +kernel
theorem dX10_post_137 : decode cX10_post 137 = .ok (.aload_n 0, 1) := by decide +kernel
theorem dX10_post_138 : decode cX10_post 138 = .ok (.invokevirtual 243, 3) := by decide +kernel
theorem dX10_post_141 : decode cX10_post 141 = .ok (.aload_n 0, 1) := by decide +kernel
theorem dX10_post_142 : decode cX10_post 142 = .ok (.iconst 0, 1) := by decide +kernel
theorem dX10_post_143 : decode cX10_post 143 = .ok (.putfield 246, 3) := by decide +kernel
theorem dX10_post_146 : decode cX10_post 146 = .ok (.iload_n 1, 1) := by decide +kernel
theorem dX10_post_147 : decode cX10_post 147 = .ok (.ireturn, 1) := by decide +kernel
theorem dX10_restore_0 : decode cX10_restore 0 = .ok (.aload_n 0, 1) := by decide +kernel
theorem dX10_restore_1 : decode cX10_restore 1 = .ok (.iconst 0, 1) := by decide +kernel
theorem dX10_restore_2 : decode cX10_restore 2 = .ok (.putfield 1, 3) := by decide +kernel
theorem dX10_restore_5 : decode cX10_restore 5 = .ok (.iload_n 1, 1) := by decide +kernel
theorem dX10_restore_6 : decode cX10_restore 6 = .ok (.iconst 0, 1) := by decide +kernel
theorem dX10_restore_7 : decode cX10_restore 7 = .ok (.iconst 1, 1) := by decide +kernel
theorem dX10_restore_8 : decode cX10_restore 8 = .ok (.invokestatic 75, 3) := by decide +kernel
theorem dX10_restore_11 : decode cX10_restore 11 = .ok (.ifCond .eq 12, 3) := by decide +kernel
theorem dX10_restore_14 : decode cX10_restore 14 = .ok (.aload_n 0, 1) := by decide +kernel
theorem dX10_restore_15 : decode cX10_restore 15 = .ok (.getfield 126, 3) := by decide +kernel
theorem dX10_restore_18 : decode cX10_restore 18 = .ok (.iload_n 1, 1) := by decide +kernel
theorem dX10_restore_19 : decode cX10_restore 19 = .ok (.baload, 1) := by decide +kernel
theorem dX10_restore_20 : decode cX10_restore 20 = .ok (.ifCond .ne 5, 3) := by decide +kernel
theorem dX10_restore_23 : decode cX10_restore 23 = .ok (.iconst 0, 1) := by decide +kernel
theorem dX10_restore_24 : decode cX10_restore 24 = .ok (.ireturn, 1) := by decide +kernel
theorem dX10_restore_25 : decode cX10_restore 25 = .ok (.iconst 0, 1) := by decide +kernel
theorem dX10_restore_26 : decode cX10_restore 26 = .ok (.istore_n 2, 1) := by decide +kernel
theorem dX10_restore_27 : decode cX10_restore 27 = .ok (.iload_n 2, 1) := by decide +kernel
theorem dX10_restore_28 : decode cX10_restore 28 = .ok (.sipush 414, 3) := by decide +kernel
theorem dX10_restore_31 : decode cX10_restore 31 = .ok (.if_icmp .ge 27, 3) := by decide +kernel
theorem dX10_restore_34 : decode cX10_restore 34 = .ok (.aload_n 0, 1) := by decide +kernel
theorem dX10_restore_35 : decode cX10_restore 35 = .ok (.getfield 98, 3) := by decide +kernel
theorem dX10_restore_38 : decode cX10_restore 38 = .ok (.iload_n 2, 1) := by decide +kernel
theorem dX10_restore_39 : decode cX10_restore 39 = .ok (.aload_n 0, 1) := by decide +kernel
theorem dX10_restore_40 : decode cX10_restore 40 = .ok (.getfield 104, 3) := by decide +kernel
theorem dX10_restore_43 : decode cX10_restore 43 = .ok (.sipush 414, 3) := by decide +kernel
theorem dX10_restore_46 : decode cX10_restore 46 = .ok (.iload_n 1, 1) := by decide +kernel
theorem dX10_restore_47 : decode cX10_restore 47 = .ok (.imul, 1) := by decide +kernel
theorem dX10_restore_48 : decode cX10_restore 48 = .ok (.iload_n 2, 1) := by decide +kernel
theorem dX10_restore_49 : decode cX10_restore 49 = .ok (.iadd, 1) := by decide +kernel
theorem dX10_restore_50 : decode cX10_restore 50 = .ok (.iaload, 1) := by decide +kernel
theorem dX10_restore_51 : decode cX10_restore 51 = .ok (.iastore, 1) := by decide +kernel
theorem dX10_restore_52 : decode cX10_restore 52 = .ok (.iinc 2 1, 3) := by decide +kernel
theorem dX10_restore_55 : decode cX10_restore 55 = .ok (.goto (-28), 3) := by decide +kernel
theorem dX10_restore_58 : decode cX10_restore 58 = .ok (.iconst 0, 1) := by decide +kernel
theorem dX10_restore_59 : decode cX10_restore 59 = .ok (.istore_n 2, 1) := by decide +kernel
theorem dX10_restore_60 : decode cX10_restore 60 = .ok (.iload_n 2, 1) := by decide +kernel
theorem dX10_restore_61 : decode cX10_restore 61 = .ok (.bipush 24, 2) := by decide +kernel
theorem dX10_restore_63 : decode cX10_restore 63 = .ok (.if_icmp .ge 26, 3) := by decide +kernel
theorem dX10_restore_66 : decode cX10_restore 66 = .ok (.aload_n 0, 1) := by decide +kernel
theorem dX10_restore_67 : decode cX10_restore 67 = .ok (.getfield 116, 3) := by decide +kernel
theorem dX10_restore_70 : decode cX10_restore 70 = .ok (.iload_n 2, 1) := by decide +kernel
theorem dX10_restore_71 : decode cX10_restore 71 = .ok (.aload_n 0, 1) := by decide +kernel
theorem dX10_restore_72 : decode cX10_restore 72 = .ok (.getfield 123, 3) := by decide +kernel
theorem dX10_restore_75 : decode cX10_restore 75 = .ok (.bipush 24, 2) := by decide +kernel
theorem dX10_restore_77 : decode cX10_restore 77 = .ok (.iload_n 1, 1) := by decide +kernel
theorem dX10_restore_78 : decode cX10_restore 78 = .ok (.imul, 1) := by decide +kernel
theorem dX10_restore_79 : decode cX10_restore 79 = .ok (.iload_n 2, 1) := by decide +kernel
theorem dX10_restore_80 : decode cX10_restore 80 = .ok (.iadd, 1) := by decide +kernel
theorem dX10_restore_81 : decode cX10_restore 81 = .ok (.laload, 1) := by decide +kernel
theorem dX10_restore_82 : decode cX10_restore 82 = .ok (.lastore, 1) := by decide +kernel
theorem dX10_restore_83 : decode cX10_restore 83 = .ok (.iinc 2 1, 3) := by decide +kernel
theorem dX10_restore_86 : decode cX10_restore 86 = .ok (.goto (-26), 3) := by decide +kernel
theorem dX10_restore_89 : decode cX10_restore 89 = .ok (.aload_n 0, 1) := by decide +kernel
theorem dX10_restore_90 : decode cX10_restore 90 = .ok (.iconst 0, 1) := by decide +kernel
theorem dX10_restore_91 : decode cX10_restore 91 = .ok (.putfield 246, 3) := by decide +kernel
theorem dX10_restore_94 : decode cX10_restore 94 = .ok (.iconst 1, 1) := by decide +kernel
theorem dX10_restore_95 : decode cX10_restore 95 = .ok (.ireturn, 1) := by decide +kernel
theorem dX10_rooms_0 : decode cX10_rooms 0 = .ok (.aload_n 0, 1) := by decide +kernel
theorem dX10_rooms_1 : decode cX10_rooms 1 = .ok (.iconst 0, 1) := by decide +kernel
theorem dX10_rooms_2 : decode cX10_rooms 2 = .ok (.putfield 1, 3) := by decide +kernel
theorem dX10_rooms_5 : decode cX10_rooms 5 = .ok (.iconst 0, 1) := by decide +kernel
theorem dX10_rooms_6 : decode cX10_rooms 6 = .ok (.istore_n 1, 1) := by decide +kernel
theorem dX10_rooms_7 : decode cX10_rooms 7 = .ok (.aload_n 0, 1) := by decide +kernel
theorem dX10_rooms_8 : decode cX10_rooms 8 = .ok (.iconst 0, 1) := by decide +kernel
theorem dX10_rooms_9 : decode cX10_rooms 9 = .ok (.iload_n 1, 1) := by decide +kernel
theorem dX10_rooms_10 : decode cX10_rooms 10 = .ok (.invokevirtual 349, 3) := by decide +kernel
theorem dX10_rooms_13 : decode cX10_rooms 13 = .ok (.ifCond .ne 9, 3) := by decide +kernel
theorem dX10_rooms_16 : decode cX10_rooms 16 = .ok (.iinc 1 1, 3) := by decide +kernel
theorem dX10_rooms_19 : decode cX10_rooms 19 = .ok (.goto (-12), 3) := by decide +kernel
theorem dX10_rooms_22 : decode cX10_rooms 22 = .ok (.iconst 0, 1) := by decide +kernel
theorem dX10_rooms_23 : decode cX10_rooms 23 = .ok (.istore_n 2, 1) := by decide +kernel
theorem dX10_rooms_24 : decode cX10_rooms 24 = .ok (.iload_n 2, 1) := by decide +kernel
theorem dX10_rooms_25 : decode cX10_rooms 25 = .ok (.bipush 6, 2) := by decide +kernel
theorem dX10_rooms_27 : decode cX10_rooms 27 = .ok (.if_icmp .ge 21, 3) := by decide +kernel
theorem dX10_rooms_30 : decode cX10_rooms 30 = .ok (.aload_n 0, 1) := by decide +kernel
theorem dX10_rooms_31 : decode cX10_rooms 31 = .ok (.getfield 151, 3) := by decide +kernel
theorem dX10_rooms_34 : decode cX10_rooms 34 = .ok (.iload_n 2, 1) := by decide +kernel
theorem dX10_rooms_35 : decode cX10_rooms 35 = .ok (.aload_n 0, 1) := by decide +kernel
theorem dX10_rooms_36 : decode cX10_rooms 36 = .ok (.getfield 148, 3) := by decide +kernel
theorem dX10_rooms_39 : decode cX10_rooms 39 = .ok (.iload_n 2, 1) := by decide +kernel
theorem dX10_rooms_40 : decode cX10_rooms 40 = .ok (.iaload, 1) := by decide +kernel
theorem dX10_rooms_41 : decode cX10_rooms 41 = .ok (.iastore, 1) := by decide +kernel
theorem dX10_rooms_42 : decode cX10_rooms 42 = .ok (.iinc 2 1, 3) := by decide +kernel
theorem dX10_rooms_45 : decode cX10_rooms 45 = .ok (.goto (-21), 3) := by decide +kernel
theorem dX10_rooms_48 : decode cX10_rooms 48 = .ok (.aload_n 0, 1) := by decide +kernel
theorem dX10_rooms_49 : decode cX10_rooms 49 = .ok (.aload_n 0, 1) := by decide +kernel
theorem dX10_rooms_50 : decode cX10_rooms 50 = .ok (.getfield 98, 3) := by decide +kernel
theorem dX10_rooms_53 : decode cX10_rooms 53 = .ok (.iconst 2, 1) := by decide +kernel
theorem dX10_rooms_54 : decode cX10_rooms 54 = .ok (.iaload, 1) := by decide +kernel
theorem dX10_rooms_55 : decode cX10_rooms 55 = .ok (.putfield 352, 3) := by decide +kernel
theorem dX10_rooms_58 : decode cX10_rooms 58 = .ok (.aload_n 0, 1) := by decide +kernel
theorem dX10_rooms_59 : decode cX10_rooms 59 = .ok (.iconst 1, 1) := by decide +kernel
theorem dX10_rooms_60 : decode cX10_rooms 60 = .ok (.putfield 355, 3) := by decide +kernel
theorem dX10_rooms_63 : decode cX10_rooms 63 = .ok (.iload_n 1, 1) := by decide +kernel
theorem dX10_rooms_64 : decode cX10_rooms 64 = .ok (.ireturn, 1) := by decide +kernel
theorem rl_900 : RI 900 900 900 := by unfold RI; decide +kernel
