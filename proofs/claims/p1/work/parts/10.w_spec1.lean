theorem inX0 : ∀ w ∈ u_ws RX0 TX0 5, w ∈ gT := by decide +kernel
theorem dfX0 : ∀ j, j < 5 → defaultValue (tyX0 j) = vp_V [.null, .null, .null, .int 0, .int 0] j := by decide +kernel
theorem inX4 : ∀ w ∈ u_ws RX4 TX4 2, w ∈ gT := by decide +kernel
theorem dfX4 : ∀ j, j < 2 → defaultValue (tyX4 j) = vp_V [.null, .null] j := by decide +kernel
theorem inX6 : ∀ w ∈ u_ws RX6 TX6 2, w ∈ gT := by decide +kernel
theorem dfX6 : ∀ j, j < 2 → defaultValue (tyX6 j) = vp_V [.null, .int 0] j := by decide +kernel
theorem inX8 : ∀ w ∈ u_ws RX8 TX8 13, w ∈ gT := by decide +kernel
theorem dfX8 : ∀ j, j < 13 → defaultValue (tyX8 j) = vp_V [.null, .int 0, .null, .null, .null, .null, .null, .null, .null, .null, .null, .null, .int 0] j := by decide +kernel
theorem tw_9 : Cond.initialized RJ7 ∈ gT := gT_t (List.mem_of_getElem? (i := 9) (by decide +kernel)) (by decide +kernel)
theorem tw_30 : Cond.instanceMethod (⟨"java/lang/Object", "<init>", "()V"⟩ : MethodName) ∈ gT := gT_t (List.mem_of_getElem? (i := 30) (by decide +kernel)) (by decide +kernel)
theorem tw_31 : Cond.code (⟨"java/lang/Object", "<init>", "()V"⟩ : MethodName) object_method_1_code (1 : Nat) (Option.none : Option Jvm.ClassFile.FieldType) ∈ gT := gT_t (List.mem_of_getElem? (i := 31) (by decide +kernel)) (by decide +kernel)
theorem tw_134 : Cond.arrayClass Jvm.ClassFile.FieldType.byte ∈ gT := gT_t (List.mem_of_getElem? (i := 134) (by decide +kernel)) (by decide +kernel)
theorem tw_141 : Cond.methodLink RX0 (3 : Nat) (⟨"java/lang/Object", "<init>", "()V"⟩ : MethodName) ∈ gT := gT_t (List.mem_of_getElem? (i := 141) (by decide +kernel)) (by decide +kernel)
theorem tw_142 : Cond.fieldLink RX0 (11 : Nat) "WonderParcels$Book" "what" "[I" ∈ gT := gT_t (List.mem_of_getElem? (i := 142) (by decide +kernel)) (by decide +kernel)
theorem tw_143 : Cond.fieldLink RX0 (15 : Nat) "WonderParcels$Book" "first" "[I" ∈ gT := gT_t (List.mem_of_getElem? (i := 143) (by decide +kernel)) (by decide +kernel)
theorem tw_144 : Cond.fieldLink RX0 (18 : Nat) "WonderParcels$Book" "second" "[I" ∈ gT := gT_t (List.mem_of_getElem? (i := 144) (by decide +kernel)) (by decide +kernel)
theorem tw_145 : Cond.fieldLink RX0 (21 : Nat) "WonderParcels$Book" "lines" "I" ∈ gT := gT_t (List.mem_of_getElem? (i := 145) (by decide +kernel)) (by decide +kernel)
theorem tw_146 : Cond.fieldLink RX0 (25 : Nat) "WonderParcels$Book" "lived" "I" ∈ gT := gT_t (List.mem_of_getElem? (i := 146) (by decide +kernel)) (by decide +kernel)
theorem tw_159 : Cond.arrayClass Jvm.ClassFile.FieldType.int ∈ gT := gT_t (List.mem_of_getElem? (i := 159) (by decide +kernel)) (by decide +kernel)
theorem tw_165 : Cond.methodLink RX4 (3 : Nat) (⟨"java/lang/Object", "<init>", "()V"⟩ : MethodName) ∈ gT := gT_t (List.mem_of_getElem? (i := 165) (by decide +kernel)) (by decide +kernel)
theorem tw_166 : Cond.methodLink RX4 (18 : Nat) yJ7_fill_53178 ∈ gT := gT_t (List.mem_of_getElem? (i := 166) (by decide +kernel)) (by decide +kernel)
theorem tw_167 : Cond.static yJ7_fill_53178 ∈ gT := gT_t (List.mem_of_getElem? (i := 167) (by decide +kernel)) (by decide +kernel)
theorem tw_168 : Cond.code yJ7_fill_53178 cJ7_fill_53178 4 none ∈ gT := gT_t (List.mem_of_getElem? (i := 168) (by decide +kernel)) (by decide +kernel)
theorem tw_169 : Cond.fieldLink RX4 (9 : Nat) "WonderParcels$Rooms" "idea" "[I" ∈ gT := gT_t (List.mem_of_getElem? (i := 169) (by decide +kernel)) (by decide +kernel)
theorem tw_170 : Cond.fieldLink RX4 (15 : Nat) "WonderParcels$Rooms" "room" "[I" ∈ gT := gT_t (List.mem_of_getElem? (i := 170) (by decide +kernel)) (by decide +kernel)
theorem tw_182 : Cond.methodLink RX6 (1 : Nat) (⟨"java/lang/Object", "<init>", "()V"⟩ : MethodName) ∈ gT := gT_t (List.mem_of_getElem? (i := 182) (by decide +kernel)) (by decide +kernel)
theorem tw_183 : Cond.fieldLink RX6 (9 : Nat) "WonderParcels$Tag" "bytes" "[B" ∈ gT := gT_t (List.mem_of_getElem? (i := 183) (by decide +kernel)) (by decide +kernel)
theorem tw_185 : Cond.fieldLink RX6 (13 : Nat) "WonderParcels$Tag" "length" "I" ∈ gT := gT_t (List.mem_of_getElem? (i := 185) (by decide +kernel)) (by decide +kernel)
theorem tw_245 : Cond.methodLink RX8 (3 : Nat) (⟨"java/lang/Object", "<init>", "()V"⟩ : MethodName) ∈ gT := gT_t (List.mem_of_getElem? (i := 245) (by decide +kernel)) (by decide +kernel)
theorem tw_246 : Cond.methodLink RX8 (46 : Nat) yJ7_fill_53178 ∈ gT := gT_t (List.mem_of_getElem? (i := 246) (by decide +kernel)) (by decide +kernel)
theorem tw_247 : Cond.fieldLink RX8 (42 : Nat) "WonderParcels$World" "post" "LWonderParcels$Post;" ∈ gT := gT_t (List.mem_of_getElem? (i := 247) (by decide +kernel)) (by decide +kernel)
theorem tw_252 : Cond.fieldLink RX8 (9 : Nat) "WonderParcels$World" "much" "[I" ∈ gT := gT_t (List.mem_of_getElem? (i := 252) (by decide +kernel)) (by decide +kernel)
theorem tw_253 : Cond.fieldLink RX8 (15 : Nat) "WonderParcels$World" "room" "[I" ∈ gT := gT_t (List.mem_of_getElem? (i := 253) (by decide +kernel)) (by decide +kernel)
theorem tw_257 : Cond.fieldLink RX8 (18 : Nat) "WonderParcels$World" "bulge" "[I" ∈ gT := gT_t (List.mem_of_getElem? (i := 257) (by decide +kernel)) (by decide +kernel)
theorem tw_260 : Cond.fieldLink RX8 (21 : Nat) "WonderParcels$World" "open" "[I" ∈ gT := gT_t (List.mem_of_getElem? (i := 260) (by decide +kernel)) (by decide +kernel)
theorem tw_262 : Cond.fieldLink RX8 (24 : Nat) "WonderParcels$World" "turned" "[I" ∈ gT := gT_t (List.mem_of_getElem? (i := 262) (by decide +kernel)) (by decide +kernel)
theorem tw_265 : Cond.fieldLink RX8 (27 : Nat) "WonderParcels$World" "wish" "[I" ∈ gT := gT_t (List.mem_of_getElem? (i := 265) (by decide +kernel)) (by decide +kernel)
theorem tw_268 : Cond.fieldLink RX8 (30 : Nat) "WonderParcels$World" "seat" "[I" ∈ gT := gT_t (List.mem_of_getElem? (i := 268) (by decide +kernel)) (by decide +kernel)
theorem tw_271 : Cond.fieldLink RX8 (33 : Nat) "WonderParcels$World" "right" "[I" ∈ gT := gT_t (List.mem_of_getElem? (i := 271) (by decide +kernel)) (by decide +kernel)
theorem tw_273 : Cond.fieldLink RX8 (36 : Nat) "WonderParcels$World" "wrong" "[I" ∈ gT := gT_t (List.mem_of_getElem? (i := 273) (by decide +kernel)) (by decide +kernel)
theorem tw_275 : Cond.fieldLink RX8 (39 : Nat) "WonderParcels$World" "gain" "[I" ∈ gT := gT_t (List.mem_of_getElem? (i := 275) (by decide +kernel)) (by decide +kernel)
theorem dJ7_fill_53178_0 : decode cJ7_fill_53178 0 = .ok (.iconst 0, 1) := by decide +kernel
theorem dJ7_fill_53178_1 : decode cJ7_fill_53178 1 = .ok (.istore_n 2, 1) := by decide +kernel
theorem dJ7_fill_53178_2 : decode cJ7_fill_53178 2 = .ok (.aload_n 0, 1) := by decide +kernel
theorem dJ7_fill_53178_3 : decode cJ7_fill_53178 3 = .ok (.arraylength, 1) := by decide +kernel
theorem dJ7_fill_53178_4 : decode cJ7_fill_53178 4 = .ok (.istore_n 3, 1) := by decide +kernel
theorem dJ7_fill_53178_5 : decode cJ7_fill_53178 5 = .ok (.iload_n 2, 1) := by decide +kernel
theorem dJ7_fill_53178_6 : decode cJ7_fill_53178 6 = .ok (.iload_n 3, 1) := by decide +kernel
theorem dJ7_fill_53178_7 : decode cJ7_fill_53178 7 = .ok (.if_icmp .ge 13, 3) := by decide +kernel
theorem dJ7_fill_53178_10 : decode cJ7_fill_53178 10 = .ok (.aload_n 0, 1) := by decide +kernel
theorem dJ7_fill_53178_11 : decode cJ7_fill_53178 11 = .ok (.iload_n 2, 1) := by decide +kernel
theorem dJ7_fill_53178_12 : decode cJ7_fill_53178 12 = .ok (.iload_n 1, 1) := by decide +kernel
theorem dJ7_fill_53178_13 : decode cJ7_fill_53178 13 = .ok (.iastore, 1) := by decide +kernel
theorem dJ7_fill_53178_14 : decode cJ7_fill_53178 14 = .ok (.iinc 2 1, 3) := by decide +kernel
theorem dJ7_fill_53178_17 : decode cJ7_fill_53178 17 = .ok (.goto (-12), 3) := by decide +kernel
theorem dJ7_fill_53178_20 : decode cJ7_fill_53178 20 = .ok (.return_, 1) := by decide +kernel
theorem dX0_init_0 : decode cX0_init 0 = .ok (.aload_n 0, 1) := by decide +kernel
theorem dX0_init_1 : decode cX0_init 1 = .ok (.invokespecial 3, 3) := by decide +kernel
theorem dX0_init_4 : decode cX0_init 4 = .ok (.aload_n 0, 1) := by decide +kernel
theorem dX0_init_5 : decode cX0_init 5 = .ok (.bipush 40, 2) := by decide +kernel
theorem dX0_init_7 : decode cX0_init 7 = .ok (.newarray .int, 2) := by decide +kernel
theorem dX0_init_9 : decode cX0_init 9 = .ok (.putfield 11, 3) := by decide +kernel
theorem dX0_init_12 : decode cX0_init 12 = .ok (.aload_n 0, 1) := by decide +kernel
theorem dX0_init_13 : decode cX0_init 13 = .ok (.bipush 40, 2) := by decide +kernel
theorem dX0_init_15 : decode cX0_init 15 = .ok (.newarray .int, 2) := by decide +kernel
theorem dX0_init_17 : decode cX0_init 17 = .ok (.putfield 15, 3) := by decide +kernel
theorem dX0_init_20 : decode cX0_init 20 = .ok (.aload_n 0, 1) := by decide +kernel
theorem dX0_init_21 : decode cX0_init 21 = .ok (.bipush 40, 2) := by decide +kernel
theorem dX0_init_23 : decode cX0_init 23 = .ok (.newarray .int, 2) := by decide +kernel
theorem dX0_init_25 : decode cX0_init 25 = .ok (.putfield 18, 3) := by decide +kernel
theorem dX0_init_28 : decode cX0_init 28 = .ok (.aload_n 0, 1) := by decide +kernel
theorem dX0_init_29 : decode cX0_init 29 = .ok (.iconst 0, 1) := by decide +kernel
theorem dX0_init_30 : decode cX0_init 30 = .ok (.putfield 21, 3) := by decide +kernel
theorem dX0_init_33 : decode cX0_init 33 = .ok (.aload_n 0, 1) := by decide +kernel
theorem dX0_init_34 : decode cX0_init 34 = .ok (.iconst 0, 1) := by decide +kernel
theorem dX0_init_35 : decode cX0_init 35 = .ok (.putfield 25, 3) := by decide +kernel
theorem dX0_init_38 : decode cX0_init 38 = .ok (.return_, 1) := by decide +kernel
theorem dX4_init_0 : decode cX4_init 0 = .ok (.aload_n 0, 1) := by decide +kernel
theorem dX4_init_1 : decode cX4_init 1 = .ok (.invokespecial 3, 3) := by decide +kernel
theorem dX4_init_4 : decode cX4_init 4 = .ok (.aload_n 0, 1) := by decide +kernel
theorem dX4_init_5 : decode cX4_init 5 = .ok (.bipush 6, 2) := by decide +kernel
theorem dX4_init_7 : decode cX4_init 7 = .ok (.newarray .int, 2) := by decide +kernel
theorem dX4_init_9 : decode cX4_init 9 = .ok (.putfield 9, 3) := by decide +kernel
theorem dX4_init_12 : decode cX4_init 12 = .ok (.aload_n 0, 1) := by decide +kernel
theorem dX4_init_13 : decode cX4_init 13 = .ok (.bipush 6, 2) := by decide +kernel
theorem dX4_init_15 : decode cX4_init 15 = .ok (.newarray .int, 2) := by decide +kernel
theorem dX4_init_17 : decode cX4_init 17 = .ok (.putfield 15, 3) := by decide +kernel
theorem dX4_init_20 : decode cX4_init 20 = .ok (.aload_n 0, 1) := by decide +kernel
theorem dX4_init_21 : decode cX4_init 21 = .ok (.getfield 15, 3) := by decide +kernel
theorem dX4_init_24 : decode cX4_init 24 = .ok (.iconst (-1), 1) := by decide +kernel
theorem dX4_init_25 : decode cX4_init 25 = .ok (.invokestatic 18, 3) := by decide +kernel
theorem dX4_init_28 : decode cX4_init 28 = .ok (.return_, 1) := by decide +kernel
theorem dX6_init_0 : decode cX6_init 0 = .ok (.aload_n 0, 1) := by decide +kernel
theorem dX6_init_1 : decode cX6_init 1 = .ok (.invokespecial 1, 3) := by decide +kernel
theorem dX6_init_4 : decode cX6_init 4 = .ok (.aload_n 0, 1) := by decide +kernel
theorem dX6_init_5 : decode cX6_init 5 = .ok (.bipush 26, 2) := by decide +kernel
theorem dX6_init_7 : decode cX6_init 7 = .ok (.newarray .byte, 2) := by decide +kernel
theorem dX6_init_9 : decode cX6_init 9 = .ok (.putfield 9, 3) := by decide +kernel
theorem dX6_init_12 : decode cX6_init 12 = .ok (.aload_n 0, 1) := by decide +kernel
theorem dX6_init_13 : decode cX6_init 13 = .ok (.iconst 0, 1) := by decide +kernel
theorem dX6_init_14 : decode cX6_init 14 = .ok (.putfield 13, 3) := by decide +kernel
theorem dX6_init_17 : decode cX6_init 17 = .ok (.return_, 1) := by decide +kernel
theorem dX8_init_0 : decode cX8_init 0 = .ok (.aload_n 0, 1) := by decide +kernel
theorem dX8_init_1 : decode cX8_init 1 = .ok (.invokespecial 3, 3) := by decide +kernel
theorem dX8_init_4 : decode cX8_init 4 = .ok (.aload_n 0, 1) := by decide +kernel
theorem dX8_init_5 : decode cX8_init 5 = .ok (.bipush 36, 2) := by decide +kernel
theorem dX8_init_7 : decode cX8_init 7 = .ok (.newarray .int, 2) := by decide +kernel
theorem dX8_init_9 : decode cX8_init 9 = .ok (.putfield 9, 3) := by decide +kernel
theorem dX8_init_12 : decode cX8_init 12 = .ok (.aload_n 0, 1) := by decide +kernel
theorem dX8_init_13 : decode cX8_init 13 = .ok (.bipush 6, 2) := by decide +kernel
theorem dX8_init_15 : decode cX8_init 15 = .ok (.newarray .int, 2) := by decide +kernel
theorem dX8_init_17 : decode cX8_init 17 = .ok (.putfield 15, 3) := by decide +kernel
theorem dX8_init_20 : decode cX8_init 20 = .ok (.aload_n 0, 1) := by decide +kernel
theorem dX8_init_21 : decode cX8_init 21 = .ok (.bipush 6, 2) := by decide +kernel
theorem dX8_init_23 : decode cX8_init 23 = .ok (.newarray .int, 2) := by decide +kernel
theorem dX8_init_25 : decode cX8_init 25 = .ok (.putfield 18, 3) := by decide +kernel
theorem dX8_init_28 : decode cX8_init 28 = .ok (.aload_n 0, 1) := by decide +kernel
theorem dX8_init_29 : decode cX8_init 29 = .ok (.bipush 6, 2) := by decide +kernel
theorem dX8_init_31 : decode cX8_init 31 = .ok (.newarray .int, 2) := by decide +kernel
theorem dX8_init_33 : decode cX8_init 33 = .ok (.putfield 21, 3) := by decide +kernel
theorem dX8_init_36 : decode cX8_init 36 = .ok (.aload_n 0, 1) := by decide +kernel
theorem dX8_init_37 : decode cX8_init 37 = .ok (.bipush 6, 2) := by decide +kernel
theorem dX8_init_39 : decode cX8_init 39 = .ok (.newarray .int, 2) := by decide +kernel
theorem dX8_init_41 : decode cX8_init 41 = .ok (.putfield 24, 3) := by decide +kernel
theorem dX8_init_44 : decode cX8_init 44 = .ok (.aload_n 0, 1) := by decide +kernel
theorem dX8_init_45 : decode cX8_init 45 = .ok (.bipush 8, 2) := by decide +kernel
theorem dX8_init_47 : decode cX8_init 47 = .ok (.newarray .int, 2) := by decide +kernel
theorem dX8_init_49 : decode cX8_init 49 = .ok (.putfield 27, 3) := by decide +kernel
theorem dX8_init_52 : decode cX8_init 52 = .ok (.aload_n 0, 1) := by decide +kernel
theorem dX8_init_53 : decode cX8_init 53 = .ok (.bipush 8, 2) := by decide +kernel
theorem dX8_init_55 : decode cX8_init 55 = .ok (.newarray .int, 2) := by decide +kernel
theorem dX8_init_57 : decode cX8_init 57 = .ok (.putfield 30, 3) := by decide +kernel
theorem dX8_init_60 : decode cX8_init 60 = .ok (.aload_n 0, 1) := by decide +kernel
theorem dX8_init_61 : decode cX8_init 61 = .ok (.bipush 8, 2) := by decide +kernel
theorem dX8_init_63 : decode cX8_init 63 = .ok (.newarray .int, 2) := by decide +kernel
theorem dX8_init_65 : decode cX8_init 65 = .ok (.putfield 33, 3) := by decide +kernel
theorem dX8_init_68 : decode cX8_init 68 = .ok (.aload_n 0, 1) := by decide +kernel
theorem dX8_init_69 : decode cX8_init 69 = .ok (.bipush 8, 2) := by decide +kernel
theorem dX8_init_71 : decode cX8_init 71 = .ok (.newarray .int, 2) := by decide +kernel
theorem dX8_init_73 : decode cX8_init 73 = .ok (.putfield 36, 3) := by decide +kernel
theorem dX8_init_76 : decode cX8_init 76 = .ok (.aload_n 0, 1) := by decide +kernel
theorem dX8_init_77 : decode cX8_init 77 = .ok (.bipush 6, 2) := by decide +kernel
theorem dX8_init_79 : decode cX8_init 79 = .ok (.newarray .int, 2) := by decide +kernel
theorem dX8_init_81 : decode cX8_init 81 = .ok (.putfield 39, 3) := by decide +kernel
theorem dX8_init_84 : decode cX8_init 84 = .ok (.aload_n 0, 1) := by decide +kernel
theorem dX8_init_85 : decode cX8_init 85 = .ok (.aload_n 1, 1) := by decide +kernel
theorem dX8_init_86 : decode cX8_init 86 = .ok (.putfield 42, 3) := by decide +kernel
theorem dX8_init_89 : decode cX8_init 89 = .ok (.aload_n 0, 1) := by decide +kernel
theorem dX8_init_90 : decode cX8_init 90 = .ok (.getfield 30, 3) := by decide +kernel
theorem dX8_init_93 : decode cX8_init 93 = .ok (.iconst (-1), 1) := by decide +kernel
theorem dX8_init_94 : decode cX8_init 94 = .ok (.invokestatic 46, 3) := by decide +kernel
theorem dX8_init_97 : decode cX8_init 97 = .ok (.return_, 1) := by decide +kernel
