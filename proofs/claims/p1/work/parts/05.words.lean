theorem inX0 : ∀ w ∈ u_ws RX0 TX0 5, w ∈ gT := by decide +kernel
theorem dfX0 : ∀ j, j < 5 → defaultValue (tyX0 j) = vp_V [.null, .null, .null, .int 0, .int 0] j := by decide +kernel
theorem inX4 : ∀ w ∈ u_ws RX4 TX4 2, w ∈ gT := by decide +kernel
theorem dfX4 : ∀ j, j < 2 → defaultValue (tyX4 j) = vp_V [.null, .null] j := by decide +kernel
theorem inX6 : ∀ w ∈ u_ws RX6 TX6 2, w ∈ gT := by decide +kernel
theorem dfX6 : ∀ j, j < 2 → defaultValue (tyX6 j) = vp_V [.null, .int 0] j := by decide +kernel
theorem inX8 : ∀ w ∈ u_ws RX8 TX8 13, w ∈ gT := by decide +kernel
theorem dfX8 : ∀ j, j < 13 → defaultValue (tyX8 j) = vp_V [.null, .int 0, .null, .null, .null, .null, .null, .null, .null, .null, .null, .null, .int 0] j := by decide +kernel
theorem tw_9 : Cond.initialized RJ7 ∈ gT := gT_t (List.mem_of_getElem? (i := 9) (by decide +kernel)) (by decide +kernel)
theorem tw_30 : Cond.instanceMethod (⟨"java/lang/Object", "<init>", "()V"⟩ : MethodName) ∈ gT := gT_t (List.mem_of_getElem? (i := 30) (by decide +kernel)) (by decide +kernel)
theorem tw_31 : Cond.code (⟨"java/lang/Object", "<init>", "()V"⟩ : MethodName) object_method_1_code (1 : Nat) (Option.none : Option Jvm.ClassFile.FieldType) ∈ gT := gT_t (List.mem_of_getElem? (i := 31) (by decide +kernel)) (by decide +kernel)
theorem tw_134 : Cond.arrayClass Jvm.ClassFile.FieldType.byte ∈ gT := gT_t (List.mem_of_getElem? (i := 134) (by decide +kernel)) (by decide +kernel)
theorem tw_141 : Cond.methodLink RX0 (3 : Nat) (⟨"java/lang/Object", "<init>", "()V"⟩ : MethodName) ∈ gT := gT_t (List.mem_of_getElem? (i := 141) (by decide +kernel)) (by decide +kernel)
theorem tw_142 : Cond.fieldLink RX0 (11 : Nat) "WonderParcels$Book" "what" "[I" ∈ gT := gT_t (List.mem_of_getElem? (i := 142) (by decide +kernel)) (by decide +kernel)
theorem tw_143 : Cond.fieldLink RX0 (15 : Nat) "WonderParcels$Book" "first" "[I" ∈ gT := gT_t (List.mem_of_getElem? (i := 143) (by decide +kernel)) (by decide +kernel)
theorem tw_144 : Cond.fieldLink RX0 (18 : Nat) "WonderParcels$Book" "second" "[I" ∈ gT := gT_t (List.mem_of_getElem? (i := 144) (by decide +kernel)) (by decide +kernel)
theorem tw_145 : Cond.fieldLink RX0 (21 : Nat) "WonderParcels$Book" "lines" "I" ∈ gT := gT_t (List.mem_of_getElem? (i := 145) (by decide +kernel)) (by decide +kernel)
theorem tw_146 : Cond.fieldLink RX0 (25 : Nat) "WonderParcels$Book" "lived" "I" ∈ gT := gT_t (List.mem_of_getElem? (i := 146) (by decide +kernel)) (by decide +kernel)
theorem tw_159 : Cond.arrayClass Jvm.ClassFile.FieldType.int ∈ gT := gT_t (List.mem_of_getElem? (i := 159) (by decide +kernel)) (by decide +kernel)
theorem tw_165 : Cond.methodLink RX4 (3 : Nat) (⟨"java/lang/Object", "<init>", "()V"⟩ : MethodName) ∈ gT := gT_t (List.mem_of_getElem? (i := 165) (by decide +kernel)) (by decide +kernel)
theorem tw_166 : Cond.methodLink RX4 (18 : Nat) yJ7_fill_53178 ∈ gT := gT_t (List.mem_of_getElem? (i := 166) (by decide +kernel)) (by decide +kernel)
theorem tw_167 : Cond.static yJ7_fill_53178 ∈ gT := gT_t (List.mem_of_getElem? (i := 167) (by decide +kernel)) (by decide +kernel)
theorem tw_168 : Cond.code yJ7_fill_53178 cJ7_fill_53178 4 none ∈ gT := gT_t (List.mem_of_getElem? (i := 168) (by decide +kernel)) (by decide +kernel)
theorem tw_169 : Cond.fieldLink RX4 (9 : Nat) "WonderParcels$Rooms" "idea" "[I" ∈ gT := gT_t (List.mem_of_getElem? (i := 169) (by decide +kernel)) (by decide +kernel)
theorem tw_170 : Cond.fieldLink RX4 (15 : Nat) "WonderParcels$Rooms" "room" "[I" ∈ gT := gT_t (List.mem_of_getElem? (i := 170) (by decide +kernel)) (by decide +kernel)
theorem tw_182 : Cond.methodLink RX6 (1 : Nat) (⟨"java/lang/Object", "<init>", "()V"⟩ : MethodName) ∈ gT := gT_t (List.mem_of_getElem? (i := 182) (by decide +kernel)) (by decide +kernel)
theorem tw_183 : Cond.fieldLink RX6 (9 : Nat) "WonderParcels$Tag" "bytes" "[B" ∈ gT := gT_t (List.mem_of_getElem? (i := 183) (by decide +kernel)) (by decide +kernel)
theorem tw_185 : Cond.fieldLink RX6 (13 : Nat) "WonderParcels$Tag" "length" "I" ∈ gT := gT_t (List.mem_of_getElem? (i := 185) (by decide +kernel)) (by decide +kernel)
theorem tw_245 : Cond.methodLink RX8 (3 : Nat) (⟨"java/lang/Object", "<init>", "()V"⟩ : MethodName) ∈ gT := gT_t (List.mem_of_getElem? (i := 245) (by decide +kernel)) (by decide +kernel)
theorem tw_246 : Cond.methodLink RX8 (46 : Nat) yJ7_fill_53178 ∈ gT := gT_t (List.mem_of_getElem? (i := 246) (by decide +kernel)) (by decide +kernel)
theorem tw_247 : Cond.fieldLink RX8 (42 : Nat) "WonderParcels$World" "post" "LWonderParcels$Post;" ∈ gT := gT_t (List.mem_of_getElem? (i := 247) (by decide +kernel)) (by decide +kernel)
theorem tw_252 : Cond.fieldLink RX8 (9 : Nat) "WonderParcels$World" "much" "[I" ∈ gT := gT_t (List.mem_of_getElem? (i := 252) (by decide +kernel)) (by decide +kernel)
theorem tw_253 : Cond.fieldLink RX8 (15 : Nat) "WonderParcels$World" "room" "[I" ∈ gT := gT_t (List.mem_of_getElem? (i := 253) (by decide +kernel)) (by decide +kernel)
theorem tw_257 : Cond.fieldLink RX8 (18 : Nat) "WonderParcels$World" "bulge" "[I" ∈ gT := gT_t (List.mem_of_getElem? (i := 257) (by decide +kernel)) (by decide +kernel)
theorem tw_260 : Cond.fieldLink RX8 (21 : Nat) "WonderParcels$World" "open" "[I" ∈ gT := gT_t (List.mem_of_getElem? (i := 260) (by decide +kernel)) (by decide +kernel)
theorem tw_262 : Cond.fieldLink RX8 (24 : Nat) "WonderParcels$World" "turned" "[I" ∈ gT := gT_t (List.mem_of_getElem? (i := 262) (by decide +kernel)) (by decide +kernel)
theorem tw_265 : Cond.fieldLink RX8 (27 : Nat) "WonderParcels$World" "wish" "[I" ∈ gT := gT_t (List.mem_of_getElem? (i := 265) (by decide +kernel)) (by decide +kernel)
theorem tw_268 : Cond.fieldLink RX8 (30 : Nat) "WonderParcels$World" "seat" "[I" ∈ gT := gT_t (List.mem_of_getElem? (i := 268) (by decide +kernel)) (by decide +kernel)
theorem tw_271 : Cond.fieldLink RX8 (33 : Nat) "WonderParcels$World" "right" "[I" ∈ gT := gT_t (List.mem_of_getElem? (i := 271) (by decide +kernel)) (by decide +kernel)
theorem tw_273 : Cond.fieldLink RX8 (36 : Nat) "WonderParcels$World" "wrong" "[I" ∈ gT := gT_t (List.mem_of_getElem? (i := 273) (by decide +kernel)) (by decide +kernel)
theorem tw_275 : Cond.fieldLink RX8 (39 : Nat) "WonderParcels$World" "gain" "[I" ∈ gT := gT_t (List.mem_of_getElem? (i := 275) (by decide +kernel)) (by decide +kernel)
