section
-- ===== PART A: goes FIRST, ahead of the names: the tables' words, and 'selects' of the private methods out of them =====
/-- a private method of a class that the tables say can be made, by its rows of tables_1 -/
def lw_okq (q : MethodName × Nat) : Prop := (q.1.cls ≠ "java/lang/invoke/MethodHandle" ∧ q.1.cls ≠ "java/lang/invoke/VarHandle") ∧ Cond.instantiable q.1.cls q.2 ∈ tables_1 ∧ Cond.privateMethod q.1 ∈ tables_1 ∧ Cond.instanceMethod q.1 ∈ tables_1
theorem lw_p0 : lw_okq (⟨"WonderParcels$Tape", "readRun", "()V"⟩, 12) := ⟨⟨by decide +kernel, by decide +kernel⟩, List.mem_of_getElem? (i := 33) (by decide +kernel), List.mem_of_getElem? (i := 432) (by decide +kernel), List.mem_of_getElem? (i := 433) (by decide +kernel)⟩
theorem lw_p1 : lw_okq (⟨"WonderParcels$Post", "beginsLine", "(LWonderParcels$Tape;I)Z"⟩, 9) := ⟨⟨by decide +kernel, by decide +kernel⟩, List.mem_of_getElem? (i := 193) (by decide +kernel), List.mem_of_getElem? (i := 447) (by decide +kernel), List.mem_of_getElem? (i := 448) (by decide +kernel)⟩
theorem lw_p2 : lw_okq (⟨"WonderParcels$Post", "readSits", "(LWonderParcels$Tape;LWonderParcels$World;)V"⟩, 9) := ⟨⟨by decide +kernel, by decide +kernel⟩, List.mem_of_getElem? (i := 193) (by decide +kernel), List.mem_of_getElem? (i := 453) (by decide +kernel), List.mem_of_getElem? (i := 454) (by decide +kernel)⟩
theorem lw_p3 : lw_okq (⟨"WonderParcels$Post", "readHas", "(LWonderParcels$Tape;LWonderParcels$World;)V"⟩, 9) := ⟨⟨by decide +kernel, by decide +kernel⟩, List.mem_of_getElem? (i := 193) (by decide +kernel), List.mem_of_getElem? (i := 470) (by decide +kernel), List.mem_of_getElem? (i := 471) (by decide +kernel)⟩
theorem lw_p4 : lw_okq (⟨"WonderParcels$Post", "readQuarrel", "(LWonderParcels$Tape;)V"⟩, 9) := ⟨⟨by decide +kernel, by decide +kernel⟩, List.mem_of_getElem? (i := 193) (by decide +kernel), List.mem_of_getElem? (i := 492) (by decide +kernel), List.mem_of_getElem? (i := 493) (by decide +kernel)⟩
theorem lw_p5 : lw_okq (⟨"WonderParcels$Post", "quarrel", "(II)Z"⟩, 9) := ⟨⟨by decide +kernel, by decide +kernel⟩, List.mem_of_getElem? (i := 193) (by decide +kernel), List.mem_of_getElem? (i := 496) (by decide +kernel), List.mem_of_getElem? (i := 497) (by decide +kernel)⟩
theorem lw_p6 : lw_okq (⟨"WonderParcels$Post", "readNamed", "(LWonderParcels$Tape;LWonderParcels$World;I)V"⟩, 9) := ⟨⟨by decide +kernel, by decide +kernel⟩, List.mem_of_getElem? (i := 193) (by decide +kernel), List.mem_of_getElem? (i := 500) (by decide +kernel), List.mem_of_getElem? (i := 501) (by decide +kernel)⟩
theorem lw_p7 : lw_okq (⟨"WonderParcels$Post", "tellName", "(LWonderParcels$Tape;I)I"⟩, 9) := ⟨⟨by decide +kernel, by decide +kernel⟩, List.mem_of_getElem? (i := 193) (by decide +kernel), List.mem_of_getElem? (i := 504) (by decide +kernel), List.mem_of_getElem? (i := 505) (by decide +kernel)⟩
theorem lw_p8 : lw_okq (⟨"WonderParcels$Post", "isTold", "(J)Z"⟩, 9) := ⟨⟨by decide +kernel, by decide +kernel⟩, List.mem_of_getElem? (i := 193) (by decide +kernel), List.mem_of_getElem? (i := 508) (by decide +kernel), List.mem_of_getElem? (i := 509) (by decide +kernel)⟩
theorem lw_p9 : lw_okq (⟨"WonderParcels", "noteFault", "()V"⟩, 15) := ⟨⟨by decide +kernel, by decide +kernel⟩, List.mem_of_getElem? (i := 25) (by decide +kernel), List.mem_of_getElem? (i := 518) (by decide +kernel), List.mem_of_getElem? (i := 519) (by decide +kernel)⟩
theorem lw_p10 : lw_okq (⟨"WonderParcels", "isOf", "(II)Z"⟩, 15) := ⟨⟨by decide +kernel, by decide +kernel⟩, List.mem_of_getElem? (i := 25) (by decide +kernel), List.mem_of_getElem? (i := 541) (by decide +kernel), List.mem_of_getElem? (i := 542) (by decide +kernel)⟩
theorem lw_p11 : lw_okq (⟨"WonderParcels$World", "willHave", "(III)I"⟩, 13) := ⟨⟨by decide +kernel, by decide +kernel⟩, List.mem_of_getElem? (i := 241) (by decide +kernel), List.mem_of_getElem? (i := 578) (by decide +kernel), List.mem_of_getElem? (i := 579) (by decide +kernel)⟩
theorem lw_p12 : lw_okq (⟨"WonderParcels", "keptIfDone", "(I)I"⟩, 15) := ⟨⟨by decide +kernel, by decide +kernel⟩, List.mem_of_getElem? (i := 25) (by decide +kernel), List.mem_of_getElem? (i := 616) (by decide +kernel), List.mem_of_getElem? (i := 617) (by decide +kernel)⟩
theorem lw_p13 : lw_okq (⟨"WonderParcels$World", "goDay", "()V"⟩, 13) := ⟨⟨by decide +kernel, by decide +kernel⟩, List.mem_of_getElem? (i := 241) (by decide +kernel), List.mem_of_getElem? (i := 686) (by decide +kernel), List.mem_of_getElem? (i := 687) (by decide +kernel)⟩
theorem lw_p14 : lw_okq (⟨"WonderParcels$World", "givesTo", "(II)I"⟩, 13) := ⟨⟨by decide +kernel, by decide +kernel⟩, List.mem_of_getElem? (i := 241) (by decide +kernel), List.mem_of_getElem? (i := 694) (by decide +kernel), List.mem_of_getElem? (i := 695) (by decide +kernel)⟩
theorem lw_p15 : lw_okq (⟨"WonderParcels$World", "grow", "(I)V"⟩, 13) := ⟨⟨by decide +kernel, by decide +kernel⟩, List.mem_of_getElem? (i := 241) (by decide +kernel), List.mem_of_getElem? (i := 698) (by decide +kernel), List.mem_of_getElem? (i := 699) (by decide +kernel)⟩
def lw_privs_1 : List (MethodName × Nat) := [(⟨"WonderParcels$Tape", "readRun", "()V"⟩, 12), (⟨"WonderParcels$Post", "beginsLine", "(LWonderParcels$Tape;I)Z"⟩, 9), (⟨"WonderParcels$Post", "readSits", "(LWonderParcels$Tape;LWonderParcels$World;)V"⟩, 9), (⟨"WonderParcels$Post", "readHas", "(LWonderParcels$Tape;LWonderParcels$World;)V"⟩, 9), (⟨"WonderParcels$Post", "readQuarrel", "(LWonderParcels$Tape;)V"⟩, 9), (⟨"WonderParcels$Post", "quarrel", "(II)Z"⟩, 9), (⟨"WonderParcels$Post", "readNamed", "(LWonderParcels$Tape;LWonderParcels$World;I)V"⟩, 9), (⟨"WonderParcels$Post", "tellName", "(LWonderParcels$Tape;I)I"⟩, 9), (⟨"WonderParcels$Post", "isTold", "(J)Z"⟩, 9), (⟨"WonderParcels", "noteFault", "()V"⟩, 15), (⟨"WonderParcels", "isOf", "(II)Z"⟩, 15), (⟨"WonderParcels$World", "willHave", "(III)I"⟩, 13), (⟨"WonderParcels", "keptIfDone", "(I)I"⟩, 15), (⟨"WonderParcels$World", "goDay", "()V"⟩, 13), (⟨"WonderParcels$World", "givesTo", "(II)I"⟩, 13), (⟨"WonderParcels$World", "grow", "(I)V"⟩, 13)]
theorem lw_r1 : ∀ q ∈ lw_privs_1, lw_okq q := List.forall_mem_cons.mpr ⟨lw_p0, List.forall_mem_cons.mpr ⟨lw_p1, List.forall_mem_cons.mpr ⟨lw_p2, List.forall_mem_cons.mpr ⟨lw_p3, List.forall_mem_cons.mpr ⟨lw_p4, List.forall_mem_cons.mpr ⟨lw_p5, List.forall_mem_cons.mpr ⟨lw_p6, List.forall_mem_cons.mpr ⟨lw_p7, List.forall_mem_cons.mpr ⟨lw_p8, List.forall_mem_cons.mpr ⟨lw_p9, List.forall_mem_cons.mpr ⟨lw_p10, List.forall_mem_cons.mpr ⟨lw_p11, List.forall_mem_cons.mpr ⟨lw_p12, List.forall_mem_cons.mpr ⟨lw_p13, List.forall_mem_cons.mpr ⟨lw_p14, List.forall_mem_cons.mpr ⟨lw_p15, fun _ h => absurd h List.not_mem_nil⟩⟩⟩⟩⟩⟩⟩⟩⟩⟩⟩⟩⟩⟩⟩⟩
theorem lw_p16 : lw_okq (⟨"WonderParcels$World", "wishesUnlike", "(I)Z"⟩, 13) := ⟨⟨by decide +kernel, by decide +kernel⟩, List.mem_of_getElem? (i := 241) (by decide +kernel), List.mem_of_getElem? (i := 706) (by decide +kernel), List.mem_of_getElem? (i := 707) (by decide +kernel)⟩
theorem lw_p17 : lw_okq (⟨"WonderParcels", "keptIfSome", "(I)I"⟩, 15) := ⟨⟨by decide +kernel, by decide +kernel⟩, List.mem_of_getElem? (i := 25) (by decide +kernel), List.mem_of_getElem? (i := 710) (by decide +kernel), List.mem_of_getElem? (i := 711) (by decide +kernel)⟩
theorem lw_p18 : lw_okq (⟨"WonderParcels", "fewestSitters", "(III)I"⟩, 15) := ⟨⟨by decide +kernel, by decide +kernel⟩, List.mem_of_getElem? (i := 25) (by decide +kernel), List.mem_of_getElem? (i := 735) (by decide +kernel), List.mem_of_getElem? (i := 736) (by decide +kernel)⟩
theorem lw_p19 : lw_okq (⟨"WonderParcels", "setsThatSat", "(IIII)I"⟩, 15) := ⟨⟨by decide +kernel, by decide +kernel⟩, List.mem_of_getElem? (i := 25) (by decide +kernel), List.mem_of_getElem? (i := 761) (by decide +kernel), List.mem_of_getElem? (i := 762) (by decide +kernel)⟩
theorem lw_p20 : lw_okq (⟨"WonderParcels$Rooms", "canPlace", "(LWonderParcels$Post;II)Z"⟩, 2) := ⟨⟨by decide +kernel, by decide +kernel⟩, List.mem_of_getElem? (i := 161) (by decide +kernel), List.mem_of_getElem? (i := 795) (by decide +kernel), List.mem_of_getElem? (i := 796) (by decide +kernel)⟩
theorem lw_p21 : lw_okq (⟨"WonderParcels$Rooms", "isQuiet", "(LWonderParcels$Post;II)Z"⟩, 2) := ⟨⟨by decide +kernel, by decide +kernel⟩, List.mem_of_getElem? (i := 161) (by decide +kernel), List.mem_of_getElem? (i := 799) (by decide +kernel), List.mem_of_getElem? (i := 800) (by decide +kernel)⟩
theorem lw_p22 : lw_okq (⟨"WonderParcels$World", "settle", "(I)V"⟩, 13) := ⟨⟨by decide +kernel, by decide +kernel⟩, List.mem_of_getElem? (i := 241) (by decide +kernel), List.mem_of_getElem? (i := 816) (by decide +kernel), List.mem_of_getElem? (i := 817) (by decide +kernel)⟩
theorem lw_p23 : lw_okq (⟨"WonderParcels$Tag", "put", "(I)V"⟩, 2) := ⟨⟨by decide +kernel, by decide +kernel⟩, List.mem_of_getElem? (i := 178) (by decide +kernel), List.mem_of_getElem? (i := 842) (by decide +kernel), List.mem_of_getElem? (i := 843) (by decide +kernel)⟩
theorem lw_p24 : lw_okq (⟨"WonderParcels$World", "drawFor", "(I)V"⟩, 13) := ⟨⟨by decide +kernel, by decide +kernel⟩, List.mem_of_getElem? (i := 241) (by decide +kernel), List.mem_of_getElem? (i := 867) (by decide +kernel), List.mem_of_getElem? (i := 868) (by decide +kernel)⟩
theorem lw_p25 : lw_okq (⟨"WonderParcels$World", "draw", "(I)I"⟩, 13) := ⟨⟨by decide +kernel, by decide +kernel⟩, List.mem_of_getElem? (i := 241) (by decide +kernel), List.mem_of_getElem? (i := 871) (by decide +kernel), List.mem_of_getElem? (i := 872) (by decide +kernel)⟩
theorem lw_p26 : lw_okq (⟨"WonderParcels$Book", "beginsLine", "(LWonderParcels$Tape;I)Z"⟩, 5) := ⟨⟨by decide +kernel, by decide +kernel⟩, List.mem_of_getElem? (i := 137) (by decide +kernel), List.mem_of_getElem? (i := 894) (by decide +kernel), List.mem_of_getElem? (i := 895) (by decide +kernel)⟩
theorem lw_p27 : lw_okq (⟨"WonderParcels$Book", "readVerb", "(LWonderParcels$Tape;LWonderParcels$Post;I)V"⟩, 5) := ⟨⟨by decide +kernel, by decide +kernel⟩, List.mem_of_getElem? (i := 137) (by decide +kernel), List.mem_of_getElem? (i := 900) (by decide +kernel), List.mem_of_getElem? (i := 901) (by decide +kernel)⟩
theorem lw_p28 : lw_okq (⟨"WonderParcels$Book", "addLine", "(III)V"⟩, 5) := ⟨⟨by decide +kernel, by decide +kernel⟩, List.mem_of_getElem? (i := 137) (by decide +kernel), List.mem_of_getElem? (i := 905) (by decide +kernel), List.mem_of_getElem? (i := 906) (by decide +kernel)⟩
theorem lw_p29 : lw_okq (⟨"WonderParcels$Book", "readOther", "(LWonderParcels$Tape;LWonderParcels$Post;I)V"⟩, 5) := ⟨⟨by decide +kernel, by decide +kernel⟩, List.mem_of_getElem? (i := 137) (by decide +kernel), List.mem_of_getElem? (i := 909) (by decide +kernel), List.mem_of_getElem? (i := 910) (by decide +kernel)⟩
theorem lw_p30 : lw_okq (⟨"WonderParcels$Book", "liveLine", "(LWonderParcels$World;I)I"⟩, 5) := ⟨⟨by decide +kernel, by decide +kernel⟩, List.mem_of_getElem? (i := 137) (by decide +kernel), List.mem_of_getElem? (i := 919) (by decide +kernel), List.mem_of_getElem? (i := 920) (by decide +kernel)⟩
theorem lw_p31 : lw_okq (⟨"WonderParcels$Sentence", "readCond", "(LWonderParcels$Tape;LWonderParcels$Post;I)V"⟩, 5) := ⟨⟨by decide +kernel, by decide +kernel⟩, List.mem_of_getElem? (i := 946) (by decide +kernel), List.mem_of_getElem? (i := 974) (by decide +kernel), List.mem_of_getElem? (i := 975) (by decide +kernel)⟩
def lw_privs_2 : List (MethodName × Nat) := [(⟨"WonderParcels$World", "wishesUnlike", "(I)Z"⟩, 13), (⟨"WonderParcels", "keptIfSome", "(I)I"⟩, 15), (⟨"WonderParcels", "fewestSitters", "(III)I"⟩, 15), (⟨"WonderParcels", "setsThatSat", "(IIII)I"⟩, 15), (⟨"WonderParcels$Rooms", "canPlace", "(LWonderParcels$Post;II)Z"⟩, 2), (⟨"WonderParcels$Rooms", "isQuiet", "(LWonderParcels$Post;II)Z"⟩, 2), (⟨"WonderParcels$World", "settle", "(I)V"⟩, 13), (⟨"WonderParcels$Tag", "put", "(I)V"⟩, 2), (⟨"WonderParcels$World", "drawFor", "(I)V"⟩, 13), (⟨"WonderParcels$World", "draw", "(I)I"⟩, 13), (⟨"WonderParcels$Book", "beginsLine", "(LWonderParcels$Tape;I)Z"⟩, 5), (⟨"WonderParcels$Book", "readVerb", "(LWonderParcels$Tape;LWonderParcels$Post;I)V"⟩, 5), (⟨"WonderParcels$Book", "addLine", "(III)V"⟩, 5), (⟨"WonderParcels$Book", "readOther", "(LWonderParcels$Tape;LWonderParcels$Post;I)V"⟩, 5), (⟨"WonderParcels$Book", "liveLine", "(LWonderParcels$World;I)I"⟩, 5), (⟨"WonderParcels$Sentence", "readCond", "(LWonderParcels$Tape;LWonderParcels$Post;I)V"⟩, 5)]
theorem lw_r2 : ∀ q ∈ lw_privs_2, lw_okq q := List.forall_mem_cons.mpr ⟨lw_p16, List.forall_mem_cons.mpr ⟨lw_p17, List.forall_mem_cons.mpr ⟨lw_p18, List.forall_mem_cons.mpr ⟨lw_p19, List.forall_mem_cons.mpr ⟨lw_p20, List.forall_mem_cons.mpr ⟨lw_p21, List.forall_mem_cons.mpr ⟨lw_p22, List.forall_mem_cons.mpr ⟨lw_p23, List.forall_mem_cons.mpr ⟨lw_p24, List.forall_mem_cons.mpr ⟨lw_p25, List.forall_mem_cons.mpr ⟨lw_p26, List.forall_mem_cons.mpr ⟨lw_p27, List.forall_mem_cons.mpr ⟨lw_p28, List.forall_mem_cons.mpr ⟨lw_p29, List.forall_mem_cons.mpr ⟨lw_p30, List.forall_mem_cons.mpr ⟨lw_p31, fun _ h => absurd h List.not_mem_nil⟩⟩⟩⟩⟩⟩⟩⟩⟩⟩⟩⟩⟩⟩⟩⟩
theorem lw_p32 : lw_okq (⟨"WonderParcels$Sentence", "readOne", "(LWonderParcels$Tape;LWonderParcels$Post;I)V"⟩, 5) := ⟨⟨by decide +kernel, by decide +kernel⟩, List.mem_of_getElem? (i := 946) (by decide +kernel), List.mem_of_getElem? (i := 978) (by decide +kernel), List.mem_of_getElem? (i := 979) (by decide +kernel)⟩
theorem lw_p33 : lw_okq (⟨"WonderParcels$Sentence", "addStep", "(III)V"⟩, 5) := ⟨⟨by decide +kernel, by decide +kernel⟩, List.mem_of_getElem? (i := 946) (by decide +kernel), List.mem_of_getElem? (i := 984) (by decide +kernel), List.mem_of_getElem? (i := 985) (by decide +kernel)⟩
theorem lw_p34 : lw_okq (⟨"WonderParcels$Sentence", "readPlain", "(LWonderParcels$Tape;LWonderParcels$Post;I)V"⟩, 5) := ⟨⟨by decide +kernel, by decide +kernel⟩, List.mem_of_getElem? (i := 946) (by decide +kernel), List.mem_of_getElem? (i := 989) (by decide +kernel), List.mem_of_getElem? (i := 990) (by decide +kernel)⟩
theorem lw_p35 : lw_okq (⟨"WonderParcels$Sentence", "isSo", "(LWonderParcels$World;II)Z"⟩, 5) := ⟨⟨by decide +kernel, by decide +kernel⟩, List.mem_of_getElem? (i := 946) (by decide +kernel), List.mem_of_getElem? (i := 1008) (by decide +kernel), List.mem_of_getElem? (i := 1009) (by decide +kernel)⟩
theorem lw_p36 : lw_okq (⟨"java/lang/Throwable", "fillInStackTrace", "(I)Ljava/lang/Throwable;"⟩, 6) := ⟨⟨by decide +kernel, by decide +kernel⟩, List.mem_of_getElem? (i := 1080) (by decide +kernel), List.mem_of_getElem? (i := 1078) (by decide +kernel), List.mem_of_getElem? (i := 1079) (by decide +kernel)⟩
theorem lw_p37 : lw_okq (⟨"WonderParcelsModel", "come", "(I)V"⟩, 49) := ⟨⟨by decide +kernel, by decide +kernel⟩, List.mem_of_getElem? (i := 1130) (by decide +kernel), List.mem_of_getElem? (i := 1128) (by decide +kernel), List.mem_of_getElem? (i := 1129) (by decide +kernel)⟩
theorem lw_p38 : lw_okq (⟨"WonderParcelsModel", "begin", "(I)V"⟩, 49) := ⟨⟨by decide +kernel, by decide +kernel⟩, List.mem_of_getElem? (i := 1130) (by decide +kernel), List.mem_of_getElem? (i := 1295) (by decide +kernel), List.mem_of_getElem? (i := 1296) (by decide +kernel)⟩
theorem lw_p39 : lw_okq (⟨"WonderParcelsModel", "take", "()I"⟩, 49) := ⟨⟨by decide +kernel, by decide +kernel⟩, List.mem_of_getElem? (i := 1130) (by decide +kernel), List.mem_of_getElem? (i := 1299) (by decide +kernel), List.mem_of_getElem? (i := 1300) (by decide +kernel)⟩
theorem lw_p40 : lw_okq (⟨"WonderParcelsModel", "go", "()V"⟩, 49) := ⟨⟨by decide +kernel, by decide +kernel⟩, List.mem_of_getElem? (i := 1130) (by decide +kernel), List.mem_of_getElem? (i := 1303) (by decide +kernel), List.mem_of_getElem? (i := 1304) (by decide +kernel)⟩
theorem lw_p41 : lw_okq (⟨"WonderParcelsModel", "tapeAt", "(I)I"⟩, 49) := ⟨⟨by decide +kernel, by decide +kernel⟩, List.mem_of_getElem? (i := 1130) (by decide +kernel), List.mem_of_getElem? (i := 1313) (by decide +kernel), List.mem_of_getElem? (i := 1314) (by decide +kernel)⟩
theorem lw_p42 : lw_okq (⟨"WonderParcelsModel", "readLine", "()Z"⟩, 49) := ⟨⟨by decide +kernel, by decide +kernel⟩, List.mem_of_getElem? (i := 1130) (by decide +kernel), List.mem_of_getElem? (i := 1319) (by decide +kernel), List.mem_of_getElem? (i := 1320) (by decide +kernel)⟩
theorem lw_p43 : lw_okq (⟨"WonderParcelsModel", "isWord", "(I)Z"⟩, 49) := ⟨⟨by decide +kernel, by decide +kernel⟩, List.mem_of_getElem? (i := 1130) (by decide +kernel), List.mem_of_getElem? (i := 1323) (by decide +kernel), List.mem_of_getElem? (i := 1324) (by decide +kernel)⟩
theorem lw_p44 : lw_okq (⟨"WonderParcelsModel", "readNewIdea", "()Z"⟩, 49) := ⟨⟨by decide +kernel, by decide +kernel⟩, List.mem_of_getElem? (i := 1130) (by decide +kernel), List.mem_of_getElem? (i := 1333) (by decide +kernel), List.mem_of_getElem? (i := 1334) (by decide +kernel)⟩
theorem lw_p45 : lw_okq (⟨"WonderParcelsModel", "readFirst", "(II)Z"⟩, 49) := ⟨⟨by decide +kernel, by decide +kernel⟩, List.mem_of_getElem? (i := 1130) (by decide +kernel), List.mem_of_getElem? (i := 1337) (by decide +kernel), List.mem_of_getElem? (i := 1338) (by decide +kernel)⟩
theorem lw_p46 : lw_okq (⟨"WonderParcelsModel", "bad", "(I)Z"⟩, 49) := ⟨⟨by decide +kernel, by decide +kernel⟩, List.mem_of_getElem? (i := 1130) (by decide +kernel), List.mem_of_getElem? (i := 1341) (by decide +kernel), List.mem_of_getElem? (i := 1342) (by decide +kernel)⟩
theorem lw_p47 : lw_okq (⟨"WonderParcelsModel", "readNew", "(I)Z"⟩, 49) := ⟨⟨by decide +kernel, by decide +kernel⟩, List.mem_of_getElem? (i := 1130) (by decide +kernel), List.mem_of_getElem? (i := 1345) (by decide +kernel), List.mem_of_getElem? (i := 1346) (by decide +kernel)⟩
def lw_privs_3 : List (MethodName × Nat) := [(⟨"WonderParcels$Sentence", "readOne", "(LWonderParcels$Tape;LWonderParcels$Post;I)V"⟩, 5), (⟨"WonderParcels$Sentence", "addStep", "(III)V"⟩, 5), (⟨"WonderParcels$Sentence", "readPlain", "(LWonderParcels$Tape;LWonderParcels$Post;I)V"⟩, 5), (⟨"WonderParcels$Sentence", "isSo", "(LWonderParcels$World;II)Z"⟩, 5), (⟨"java/lang/Throwable", "fillInStackTrace", "(I)Ljava/lang/Throwable;"⟩, 6), (⟨"WonderParcelsModel", "come", "(I)V"⟩, 49), (⟨"WonderParcelsModel", "begin", "(I)V"⟩, 49), (⟨"WonderParcelsModel", "take", "()I"⟩, 49), (⟨"WonderParcelsModel", "go", "()V"⟩, 49), (⟨"WonderParcelsModel", "tapeAt", "(I)I"⟩, 49), (⟨"WonderParcelsModel", "readLine", "()Z"⟩, 49), (⟨"WonderParcelsModel", "isWord", "(I)Z"⟩, 49), (⟨"WonderParcelsModel", "readNewIdea", "()Z"⟩, 49), (⟨"WonderParcelsModel", "readFirst", "(II)Z"⟩, 49), (⟨"WonderParcelsModel", "bad", "(I)Z"⟩, 49), (⟨"WonderParcelsModel", "readNew", "(I)Z"⟩, 49)]
theorem lw_r3 : ∀ q ∈ lw_privs_3, lw_okq q := List.forall_mem_cons.mpr ⟨lw_p32, List.forall_mem_cons.mpr ⟨lw_p33, List.forall_mem_cons.mpr ⟨lw_p34, List.forall_mem_cons.mpr ⟨lw_p35, List.forall_mem_cons.mpr ⟨lw_p36, List.forall_mem_cons.mpr ⟨lw_p37, List.forall_mem_cons.mpr ⟨lw_p38, List.forall_mem_cons.mpr ⟨lw_p39, List.forall_mem_cons.mpr ⟨lw_p40, List.forall_mem_cons.mpr ⟨lw_p41, List.forall_mem_cons.mpr ⟨lw_p42, List.forall_mem_cons.mpr ⟨lw_p43, List.forall_mem_cons.mpr ⟨lw_p44, List.forall_mem_cons.mpr ⟨lw_p45, List.forall_mem_cons.mpr ⟨lw_p46, List.forall_mem_cons.mpr ⟨lw_p47, fun _ h => absurd h List.not_mem_nil⟩⟩⟩⟩⟩⟩⟩⟩⟩⟩⟩⟩⟩⟩⟩⟩
theorem lw_p48 : lw_okq (⟨"WonderParcelsModel", "isName", "()Z"⟩, 49) := ⟨⟨by decide +kernel, by decide +kernel⟩, List.mem_of_getElem? (i := 1130) (by decide +kernel), List.mem_of_getElem? (i := 1349) (by decide +kernel), List.mem_of_getElem? (i := 1350) (by decide +kernel)⟩
theorem lw_p49 : lw_okq (⟨"WonderParcelsModel", "isTaken", "()Z"⟩, 49) := ⟨⟨by decide +kernel, by decide +kernel⟩, List.mem_of_getElem? (i := 1130) (by decide +kernel), List.mem_of_getElem? (i := 1353) (by decide +kernel), List.mem_of_getElem? (i := 1354) (by decide +kernel)⟩
theorem lw_p50 : lw_okq (⟨"WonderParcelsModel", "readNumber", "(II)Z"⟩, 49) := ⟨⟨by decide +kernel, by decide +kernel⟩, List.mem_of_getElem? (i := 1130) (by decide +kernel), List.mem_of_getElem? (i := 1360) (by decide +kernel), List.mem_of_getElem? (i := 1361) (by decide +kernel)⟩
theorem lw_p51 : lw_okq (⟨"WonderParcelsModel", "put", "(IZ)Z"⟩, 49) := ⟨⟨by decide +kernel, by decide +kernel⟩, List.mem_of_getElem? (i := 1130) (by decide +kernel), List.mem_of_getElem? (i := 1367) (by decide +kernel), List.mem_of_getElem? (i := 1368) (by decide +kernel)⟩
theorem lw_p52 : lw_okq (⟨"WonderParcelsModel", "readRoom", "()Z"⟩, 49) := ⟨⟨by decide +kernel, by decide +kernel⟩, List.mem_of_getElem? (i := 1130) (by decide +kernel), List.mem_of_getElem? (i := 1371) (by decide +kernel), List.mem_of_getElem? (i := 1372) (by decide +kernel)⟩
theorem lw_p53 : lw_okq (⟨"WonderParcelsModel", "readParcel", "()Z"⟩, 49) := ⟨⟨by decide +kernel, by decide +kernel⟩, List.mem_of_getElem? (i := 1130) (by decide +kernel), List.mem_of_getElem? (i := 1375) (by decide +kernel), List.mem_of_getElem? (i := 1376) (by decide +kernel)⟩
theorem lw_p54 : lw_okq (⟨"WonderParcelsModel", "readOne", "(II)Z"⟩, 49) := ⟨⟨by decide +kernel, by decide +kernel⟩, List.mem_of_getElem? (i := 1130) (by decide +kernel), List.mem_of_getElem? (i := 1379) (by decide +kernel), List.mem_of_getElem? (i := 1380) (by decide +kernel)⟩
theorem lw_p55 : lw_okq (⟨"WonderParcelsModel", "isOne", "(II)Z"⟩, 49) := ⟨⟨by decide +kernel, by decide +kernel⟩, List.mem_of_getElem? (i := 1130) (by decide +kernel), List.mem_of_getElem? (i := 1383) (by decide +kernel), List.mem_of_getElem? (i := 1384) (by decide +kernel)⟩
theorem lw_p56 : lw_okq (⟨"WonderParcelsModel", "readPerson", "()Z"⟩, 49) := ⟨⟨by decide +kernel, by decide +kernel⟩, List.mem_of_getElem? (i := 1130) (by decide +kernel), List.mem_of_getElem? (i := 1387) (by decide +kernel), List.mem_of_getElem? (i := 1388) (by decide +kernel)⟩
theorem lw_p57 : lw_okq (⟨"WonderParcelsModel", "readIdea", "()Z"⟩, 49) := ⟨⟨by decide +kernel, by decide +kernel⟩, List.mem_of_getElem? (i := 1130) (by decide +kernel), List.mem_of_getElem? (i := 1391) (by decide +kernel), List.mem_of_getElem? (i := 1392) (by decide +kernel)⟩
theorem lw_p58 : lw_okq (⟨"WonderParcelsModel", "readSits", "()Z"⟩, 49) := ⟨⟨by decide +kernel, by decide +kernel⟩, List.mem_of_getElem? (i := 1130) (by decide +kernel), List.mem_of_getElem? (i := 1395) (by decide +kernel), List.mem_of_getElem? (i := 1396) (by decide +kernel)⟩
theorem lw_p59 : lw_okq (⟨"WonderParcelsModel", "readHas", "()Z"⟩, 49) := ⟨⟨by decide +kernel, by decide +kernel⟩, List.mem_of_getElem? (i := 1130) (by decide +kernel), List.mem_of_getElem? (i := 1399) (by decide +kernel), List.mem_of_getElem? (i := 1400) (by decide +kernel)⟩
theorem lw_p60 : lw_okq (⟨"WonderParcelsModel", "readQuarrel", "()Z"⟩, 49) := ⟨⟨by decide +kernel, by decide +kernel⟩, List.mem_of_getElem? (i := 1130) (by decide +kernel), List.mem_of_getElem? (i := 1403) (by decide +kernel), List.mem_of_getElem? (i := 1404) (by decide +kernel)⟩
theorem lw_p61 : lw_okq (⟨"WonderParcelsModel", "readOnce", "(IIII)Z"⟩, 49) := ⟨⟨by decide +kernel, by decide +kernel⟩, List.mem_of_getElem? (i := 1130) (by decide +kernel), List.mem_of_getElem? (i := 1410) (by decide +kernel), List.mem_of_getElem? (i := 1411) (by decide +kernel)⟩
theorem lw_p62 : lw_okq (⟨"WonderParcelsModel", "readEnd", "()Z"⟩, 49) := ⟨⟨by decide +kernel, by decide +kernel⟩, List.mem_of_getElem? (i := 1130) (by decide +kernel), List.mem_of_getElem? (i := 1414) (by decide +kernel), List.mem_of_getElem? (i := 1415) (by decide +kernel)⟩
theorem lw_p63 : lw_okq (⟨"WonderParcelsModel", "isSign", "(I)Z"⟩, 49) := ⟨⟨by decide +kernel, by decide +kernel⟩, List.mem_of_getElem? (i := 1130) (by decide +kernel), List.mem_of_getElem? (i := 1418) (by decide +kernel), List.mem_of_getElem? (i := 1419) (by decide +kernel)⟩
def lw_privs_4 : List (MethodName × Nat) := [(⟨"WonderParcelsModel", "isName", "()Z"⟩, 49), (⟨"WonderParcelsModel", "isTaken", "()Z"⟩, 49), (⟨"WonderParcelsModel", "readNumber", "(II)Z"⟩, 49), (⟨"WonderParcelsModel", "put", "(IZ)Z"⟩, 49), (⟨"WonderParcelsModel", "readRoom", "()Z"⟩, 49), (⟨"WonderParcelsModel", "readParcel", "()Z"⟩, 49), (⟨"WonderParcelsModel", "readOne", "(II)Z"⟩, 49), (⟨"WonderParcelsModel", "isOne", "(II)Z"⟩, 49), (⟨"WonderParcelsModel", "readPerson", "()Z"⟩, 49), (⟨"WonderParcelsModel", "readIdea", "()Z"⟩, 49), (⟨"WonderParcelsModel", "readSits", "()Z"⟩, 49), (⟨"WonderParcelsModel", "readHas", "()Z"⟩, 49), (⟨"WonderParcelsModel", "readQuarrel", "()Z"⟩, 49), (⟨"WonderParcelsModel", "readOnce", "(IIII)Z"⟩, 49), (⟨"WonderParcelsModel", "readEnd", "()Z"⟩, 49), (⟨"WonderParcelsModel", "isSign", "(I)Z"⟩, 49)]
theorem lw_r4 : ∀ q ∈ lw_privs_4, lw_okq q := List.forall_mem_cons.mpr ⟨lw_p48, List.forall_mem_cons.mpr ⟨lw_p49, List.forall_mem_cons.mpr ⟨lw_p50, List.forall_mem_cons.mpr ⟨lw_p51, List.forall_mem_cons.mpr ⟨lw_p52, List.forall_mem_cons.mpr ⟨lw_p53, List.forall_mem_cons.mpr ⟨lw_p54, List.forall_mem_cons.mpr ⟨lw_p55, List.forall_mem_cons.mpr ⟨lw_p56, List.forall_mem_cons.mpr ⟨lw_p57, List.forall_mem_cons.mpr ⟨lw_p58, List.forall_mem_cons.mpr ⟨lw_p59, List.forall_mem_cons.mpr ⟨lw_p60, List.forall_mem_cons.mpr ⟨lw_p61, List.forall_mem_cons.mpr ⟨lw_p62, List.forall_mem_cons.mpr ⟨lw_p63, fun _ h => absurd h List.not_mem_nil⟩⟩⟩⟩⟩⟩⟩⟩⟩⟩⟩⟩⟩⟩⟩⟩
theorem lw_p64 : lw_okq (⟨"WonderParcelsModel", "startSo", "()V"⟩, 49) := ⟨⟨by decide +kernel, by decide +kernel⟩, List.mem_of_getElem? (i := 1130) (by decide +kernel), List.mem_of_getElem? (i := 1422) (by decide +kernel), List.mem_of_getElem? (i := 1423) (by decide +kernel)⟩
theorem lw_p65 : lw_okq (⟨"WonderParcelsModel", "isParcel", "(I)Z"⟩, 49) := ⟨⟨by decide +kernel, by decide +kernel⟩, List.mem_of_getElem? (i := 1130) (by decide +kernel), List.mem_of_getElem? (i := 1434) (by decide +kernel), List.mem_of_getElem? (i := 1435) (by decide +kernel)⟩
theorem lw_p66 : lw_okq (⟨"WonderParcelsModel", "isIdea", "(I)Z"⟩, 49) := ⟨⟨by decide +kernel, by decide +kernel⟩, List.mem_of_getElem? (i := 1130) (by decide +kernel), List.mem_of_getElem? (i := 1438) (by decide +kernel), List.mem_of_getElem? (i := 1439) (by decide +kernel)⟩
theorem lw_p67 : lw_okq (⟨"WonderParcelsModel", "muchOf", "(II)I"⟩, 49) := ⟨⟨by decide +kernel, by decide +kernel⟩, List.mem_of_getElem? (i := 1130) (by decide +kernel), List.mem_of_getElem? (i := 1442) (by decide +kernel), List.mem_of_getElem? (i := 1443) (by decide +kernel)⟩
theorem lw_p68 : lw_okq (⟨"WonderParcelsModel", "refuse", "()I"⟩, 49) := ⟨⟨by decide +kernel, by decide +kernel⟩, List.mem_of_getElem? (i := 1130) (by decide +kernel), List.mem_of_getElem? (i := 1450) (by decide +kernel), List.mem_of_getElem? (i := 1451) (by decide +kernel)⟩
theorem lw_p69 : lw_okq (⟨"WonderParcelsModel", "whatIs", "(I)I"⟩, 49) := ⟨⟨by decide +kernel, by decide +kernel⟩, List.mem_of_getElem? (i := 1130) (by decide +kernel), List.mem_of_getElem? (i := 1454) (by decide +kernel), List.mem_of_getElem? (i := 1455) (by decide +kernel)⟩
theorem lw_p70 : lw_okq (⟨"WonderParcelsModel", "sizeOf", "(I)I"⟩, 49) := ⟨⟨by decide +kernel, by decide +kernel⟩, List.mem_of_getElem? (i := 1130) (by decide +kernel), List.mem_of_getElem? (i := 1458) (by decide +kernel), List.mem_of_getElem? (i := 1459) (by decide +kernel)⟩
theorem lw_p71 : lw_okq (⟨"WonderParcelsModel", "isOpen", "(I)Z"⟩, 49) := ⟨⟨by decide +kernel, by decide +kernel⟩, List.mem_of_getElem? (i := 1130) (by decide +kernel), List.mem_of_getElem? (i := 1462) (by decide +kernel), List.mem_of_getElem? (i := 1463) (by decide +kernel)⟩
theorem lw_p72 : lw_okq (⟨"WonderParcelsModel", "sittersOf", "(I)I"⟩, 49) := ⟨⟨by decide +kernel, by decide +kernel⟩, List.mem_of_getElem? (i := 1130) (by decide +kernel), List.mem_of_getElem? (i := 1466) (by decide +kernel), List.mem_of_getElem? (i := 1467) (by decide +kernel)⟩
theorem lw_p73 : lw_okq (⟨"WonderParcelsModel", "isPerson", "(I)Z"⟩, 49) := ⟨⟨by decide +kernel, by decide +kernel⟩, List.mem_of_getElem? (i := 1130) (by decide +kernel), List.mem_of_getElem? (i := 1474) (by decide +kernel), List.mem_of_getElem? (i := 1475) (by decide +kernel)⟩
theorem lw_p74 : lw_okq (⟨"WonderParcelsModel", "nothings", "()I"⟩, 49) := ⟨⟨by decide +kernel, by decide +kernel⟩, List.mem_of_getElem? (i := 1130) (by decide +kernel), List.mem_of_getElem? (i := 1490) (by decide +kernel), List.mem_of_getElem? (i := 1491) (by decide +kernel)⟩
theorem lw_p75 : lw_okq (⟨"WonderParcelsModel", "sum", "(II)I"⟩, 49) := ⟨⟨by decide +kernel, by decide +kernel⟩, List.mem_of_getElem? (i := 1130) (by decide +kernel), List.mem_of_getElem? (i := 1494) (by decide +kernel), List.mem_of_getElem? (i := 1495) (by decide +kernel)⟩
theorem lw_p76 : lw_okq (⟨"WonderParcelsModel", "act", "(III)I"⟩, 49) := ⟨⟨by decide +kernel, by decide +kernel⟩, List.mem_of_getElem? (i := 1130) (by decide +kernel), List.mem_of_getElem? (i := 1502) (by decide +kernel), List.mem_of_getElem? (i := 1503) (by decide +kernel)⟩
theorem lw_p77 : lw_okq (⟨"WonderParcelsModel", "why", "(III)I"⟩, 49) := ⟨⟨by decide +kernel, by decide +kernel⟩, List.mem_of_getElem? (i := 1130) (by decide +kernel), List.mem_of_getElem? (i := 1506) (by decide +kernel), List.mem_of_getElem? (i := 1507) (by decide +kernel)⟩
theorem lw_p78 : lw_okq (⟨"WonderParcelsModel", "snap", "()V"⟩, 49) := ⟨⟨by decide +kernel, by decide +kernel⟩, List.mem_of_getElem? (i := 1130) (by decide +kernel), List.mem_of_getElem? (i := 1510) (by decide +kernel), List.mem_of_getElem? (i := 1511) (by decide +kernel)⟩
theorem lw_p79 : lw_okq (⟨"WonderParcelsModel", "live", "(III)V"⟩, 49) := ⟨⟨by decide +kernel, by decide +kernel⟩, List.mem_of_getElem? (i := 1130) (by decide +kernel), List.mem_of_getElem? (i := 1514) (by decide +kernel), List.mem_of_getElem? (i := 1515) (by decide +kernel)⟩
def lw_privs_5 : List (MethodName × Nat) := [(⟨"WonderParcelsModel", "startSo", "()V"⟩, 49), (⟨"WonderParcelsModel", "isParcel", "(I)Z"⟩, 49), (⟨"WonderParcelsModel", "isIdea", "(I)Z"⟩, 49), (⟨"WonderParcelsModel", "muchOf", "(II)I"⟩, 49), (⟨"WonderParcelsModel", "refuse", "()I"⟩, 49), (⟨"WonderParcelsModel", "whatIs", "(I)I"⟩, 49), (⟨"WonderParcelsModel", "sizeOf", "(I)I"⟩, 49), (⟨"WonderParcelsModel", "isOpen", "(I)Z"⟩, 49), (⟨"WonderParcelsModel", "sittersOf", "(I)I"⟩, 49), (⟨"WonderParcelsModel", "isPerson", "(I)Z"⟩, 49), (⟨"WonderParcelsModel", "nothings", "()I"⟩, 49), (⟨"WonderParcelsModel", "sum", "(II)I"⟩, 49), (⟨"WonderParcelsModel", "act", "(III)I"⟩, 49), (⟨"WonderParcelsModel", "why", "(III)I"⟩, 49), (⟨"WonderParcelsModel", "snap", "()V"⟩, 49), (⟨"WonderParcelsModel", "live", "(III)V"⟩, 49)]
theorem lw_r5 : ∀ q ∈ lw_privs_5, lw_okq q := List.forall_mem_cons.mpr ⟨lw_p64, List.forall_mem_cons.mpr ⟨lw_p65, List.forall_mem_cons.mpr ⟨lw_p66, List.forall_mem_cons.mpr ⟨lw_p67, List.forall_mem_cons.mpr ⟨lw_p68, List.forall_mem_cons.mpr ⟨lw_p69, List.forall_mem_cons.mpr ⟨lw_p70, List.forall_mem_cons.mpr ⟨lw_p71, List.forall_mem_cons.mpr ⟨lw_p72, List.forall_mem_cons.mpr ⟨lw_p73, List.forall_mem_cons.mpr ⟨lw_p74, List.forall_mem_cons.mpr ⟨lw_p75, List.forall_mem_cons.mpr ⟨lw_p76, List.forall_mem_cons.mpr ⟨lw_p77, List.forall_mem_cons.mpr ⟨lw_p78, List.forall_mem_cons.mpr ⟨lw_p79, fun _ h => absurd h List.not_mem_nil⟩⟩⟩⟩⟩⟩⟩⟩⟩⟩⟩⟩⟩⟩⟩⟩
theorem lw_p80 : lw_okq (⟨"WonderParcelsModel", "doGuess", "(II)V"⟩, 49) := ⟨⟨by decide +kernel, by decide +kernel⟩, List.mem_of_getElem? (i := 1130) (by decide +kernel), List.mem_of_getElem? (i := 1518) (by decide +kernel), List.mem_of_getElem? (i := 1519) (by decide +kernel)⟩
theorem lw_p81 : lw_okq (⟨"WonderParcelsModel", "less", "(II)V"⟩, 49) := ⟨⟨by decide +kernel, by decide +kernel⟩, List.mem_of_getElem? (i := 1130) (by decide +kernel), List.mem_of_getElem? (i := 1522) (by decide +kernel), List.mem_of_getElem? (i := 1523) (by decide +kernel)⟩
theorem lw_p82 : lw_okq (⟨"WonderParcelsModel", "adds", "(III)V"⟩, 49) := ⟨⟨by decide +kernel, by decide +kernel⟩, List.mem_of_getElem? (i := 1130) (by decide +kernel), List.mem_of_getElem? (i := 1526) (by decide +kernel), List.mem_of_getElem? (i := 1527) (by decide +kernel)⟩
theorem lw_p83 : lw_okq (⟨"WonderParcelsModel", "isRoom", "(I)Z"⟩, 49) := ⟨⟨by decide +kernel, by decide +kernel⟩, List.mem_of_getElem? (i := 1130) (by decide +kernel), List.mem_of_getElem? (i := 1553) (by decide +kernel), List.mem_of_getElem? (i := 1554) (by decide +kernel)⟩
theorem lw_p84 : lw_okq (⟨"WonderParcelsModel", "passDays", "(I)I"⟩, 49) := ⟨⟨by decide +kernel, by decide +kernel⟩, List.mem_of_getElem? (i := 1130) (by decide +kernel), List.mem_of_getElem? (i := 1565) (by decide +kernel), List.mem_of_getElem? (i := 1566) (by decide +kernel)⟩
theorem lw_p85 : lw_okq (⟨"WonderParcelsModel", "oneDay", "()V"⟩, 49) := ⟨⟨by decide +kernel, by decide +kernel⟩, List.mem_of_getElem? (i := 1130) (by decide +kernel), List.mem_of_getElem? (i := 1569) (by decide +kernel), List.mem_of_getElem? (i := 1570) (by decide +kernel)⟩
theorem lw_p86 : lw_okq (⟨"WonderParcelsModel", "wonders", "(I)V"⟩, 49) := ⟨⟨by decide +kernel, by decide +kernel⟩, List.mem_of_getElem? (i := 1130) (by decide +kernel), List.mem_of_getElem? (i := 1573) (by decide +kernel), List.mem_of_getElem? (i := 1574) (by decide +kernel)⟩
theorem lw_p87 : lw_okq (⟨"WonderParcelsModel", "areUnlike", "(I)Z"⟩, 49) := ⟨⟨by decide +kernel, by decide +kernel⟩, List.mem_of_getElem? (i := 1130) (by decide +kernel), List.mem_of_getElem? (i := 1577) (by decide +kernel), List.mem_of_getElem? (i := 1578) (by decide +kernel)⟩
theorem lw_p88 : lw_okq (⟨"WonderParcelsModel", "layAside", "()V"⟩, 49) := ⟨⟨by decide +kernel, by decide +kernel⟩, List.mem_of_getElem? (i := 1130) (by decide +kernel), List.mem_of_getElem? (i := 1588) (by decide +kernel), List.mem_of_getElem? (i := 1589) (by decide +kernel)⟩
theorem lw_p89 : lw_okq (⟨"WonderParcelsModel", "takeBack", "()V"⟩, 49) := ⟨⟨by decide +kernel, by decide +kernel⟩, List.mem_of_getElem? (i := 1130) (by decide +kernel), List.mem_of_getElem? (i := 1592) (by decide +kernel), List.mem_of_getElem? (i := 1593) (by decide +kernel)⟩
theorem lw_p90 : lw_okq (⟨"WonderParcelsModel", "satSo", "(IIIII)Z"⟩, 49) := ⟨⟨by decide +kernel, by decide +kernel⟩, List.mem_of_getElem? (i := 1130) (by decide +kernel), List.mem_of_getElem? (i := 1608) (by decide +kernel), List.mem_of_getElem? (i := 1609) (by decide +kernel)⟩
theorem lw_p91 : lw_okq (⟨"WonderParcelsModel", "hold", "()V"⟩, 49) := ⟨⟨by decide +kernel, by decide +kernel⟩, List.mem_of_getElem? (i := 1130) (by decide +kernel), List.mem_of_getElem? (i := 1612) (by decide +kernel), List.mem_of_getElem? (i := 1613) (by decide +kernel)⟩
theorem lw_p92 : lw_okq (⟨"WonderParcelsModel", "back", "()V"⟩, 49) := ⟨⟨by decide +kernel, by decide +kernel⟩, List.mem_of_getElem? (i := 1130) (by decide +kernel), List.mem_of_getElem? (i := 1616) (by decide +kernel), List.mem_of_getElem? (i := 1617) (by decide +kernel)⟩
theorem lw_p93 : lw_okq (⟨"WonderParcelsModel", "placeFrom", "(II)Z"⟩, 49) := ⟨⟨by decide +kernel, by decide +kernel⟩, List.mem_of_getElem? (i := 1130) (by decide +kernel), List.mem_of_getElem? (i := 1639) (by decide +kernel), List.mem_of_getElem? (i := 1640) (by decide +kernel)⟩
theorem lw_p94 : lw_okq (⟨"WonderParcelsModel", "doQuarrel", "(II)Z"⟩, 49) := ⟨⟨by decide +kernel, by decide +kernel⟩, List.mem_of_getElem? (i := 1130) (by decide +kernel), List.mem_of_getElem? (i := 1643) (by decide +kernel), List.mem_of_getElem? (i := 1644) (by decide +kernel)⟩
theorem lw_p95 : lw_okq (⟨"WonderParcelsModel", "resits", "(I)Z"⟩, 49) := ⟨⟨by decide +kernel, by decide +kernel⟩, List.mem_of_getElem? (i := 1130) (by decide +kernel), List.mem_of_getElem? (i := 1655) (by decide +kernel), List.mem_of_getElem? (i := 1656) (by decide +kernel)⟩
def lw_privs_6 : List (MethodName × Nat) := [(⟨"WonderParcelsModel", "doGuess", "(II)V"⟩, 49), (⟨"WonderParcelsModel", "less", "(II)V"⟩, 49), (⟨"WonderParcelsModel", "adds", "(III)V"⟩, 49), (⟨"WonderParcelsModel", "isRoom", "(I)Z"⟩, 49), (⟨"WonderParcelsModel", "passDays", "(I)I"⟩, 49), (⟨"WonderParcelsModel", "oneDay", "()V"⟩, 49), (⟨"WonderParcelsModel", "wonders", "(I)V"⟩, 49), (⟨"WonderParcelsModel", "areUnlike", "(I)Z"⟩, 49), (⟨"WonderParcelsModel", "layAside", "()V"⟩, 49), (⟨"WonderParcelsModel", "takeBack", "()V"⟩, 49), (⟨"WonderParcelsModel", "satSo", "(IIIII)Z"⟩, 49), (⟨"WonderParcelsModel", "hold", "()V"⟩, 49), (⟨"WonderParcelsModel", "back", "()V"⟩, 49), (⟨"WonderParcelsModel", "placeFrom", "(II)Z"⟩, 49), (⟨"WonderParcelsModel", "doQuarrel", "(II)Z"⟩, 49), (⟨"WonderParcelsModel", "resits", "(I)Z"⟩, 49)]
theorem lw_r6 : ∀ q ∈ lw_privs_6, lw_okq q := List.forall_mem_cons.mpr ⟨lw_p80, List.forall_mem_cons.mpr ⟨lw_p81, List.forall_mem_cons.mpr ⟨lw_p82, List.forall_mem_cons.mpr ⟨lw_p83, List.forall_mem_cons.mpr ⟨lw_p84, List.forall_mem_cons.mpr ⟨lw_p85, List.forall_mem_cons.mpr ⟨lw_p86, List.forall_mem_cons.mpr ⟨lw_p87, List.forall_mem_cons.mpr ⟨lw_p88, List.forall_mem_cons.mpr ⟨lw_p89, List.forall_mem_cons.mpr ⟨lw_p90, List.forall_mem_cons.mpr ⟨lw_p91, List.forall_mem_cons.mpr ⟨lw_p92, List.forall_mem_cons.mpr ⟨lw_p93, List.forall_mem_cons.mpr ⟨lw_p94, List.forall_mem_cons.mpr ⟨lw_p95, fun _ h => absurd h List.not_mem_nil⟩⟩⟩⟩⟩⟩⟩⟩⟩⟩⟩⟩⟩⟩⟩⟩
theorem lw_p96 : lw_okq (⟨"WonderParcelsModel", "worthOf", "(II)I"⟩, 49) := ⟨⟨by decide +kernel, by decide +kernel⟩, List.mem_of_getElem? (i := 1130) (by decide +kernel), List.mem_of_getElem? (i := 1659) (by decide +kernel), List.mem_of_getElem? (i := 1660) (by decide +kernel)⟩
theorem lw_p97 : lw_okq (⟨"WonderParcelsModel", "writeWord", "(J)V"⟩, 49) := ⟨⟨by decide +kernel, by decide +kernel⟩, List.mem_of_getElem? (i := 1130) (by decide +kernel), List.mem_of_getElem? (i := 1675) (by decide +kernel), List.mem_of_getElem? (i := 1676) (by decide +kernel)⟩
theorem lw_p98 : lw_okq (⟨"WonderParcelsModel", "write", "(I)V"⟩, 49) := ⟨⟨by decide +kernel, by decide +kernel⟩, List.mem_of_getElem? (i := 1130) (by decide +kernel), List.mem_of_getElem? (i := 1679) (by decide +kernel), List.mem_of_getElem? (i := 1680) (by decide +kernel)⟩
theorem lw_p99 : lw_okq (⟨"WonderParcelsModel", "writeNext", "(J)V"⟩, 49) := ⟨⟨by decide +kernel, by decide +kernel⟩, List.mem_of_getElem? (i := 1130) (by decide +kernel), List.mem_of_getElem? (i := 1683) (by decide +kernel), List.mem_of_getElem? (i := 1684) (by decide +kernel)⟩
theorem lw_p100 : lw_okq (⟨"WonderParcelsModel", "drawDays", "(II)I"⟩, 49) := ⟨⟨by decide +kernel, by decide +kernel⟩, List.mem_of_getElem? (i := 1130) (by decide +kernel), List.mem_of_getElem? (i := 1695) (by decide +kernel), List.mem_of_getElem? (i := 1696) (by decide +kernel)⟩
theorem lw_p101 : lw_okq (⟨"WonderParcelsModel", "drawsFor", "(I)V"⟩, 49) := ⟨⟨by decide +kernel, by decide +kernel⟩, List.mem_of_getElem? (i := 1130) (by decide +kernel), List.mem_of_getElem? (i := 1699) (by decide +kernel), List.mem_of_getElem? (i := 1700) (by decide +kernel)⟩
theorem lw_p102 : lw_okq (⟨"WonderParcelsModel", "draw", "(I)I"⟩, 49) := ⟨⟨by decide +kernel, by decide +kernel⟩, List.mem_of_getElem? (i := 1130) (by decide +kernel), List.mem_of_getElem? (i := 1703) (by decide +kernel), List.mem_of_getElem? (i := 1704) (by decide +kernel)⟩
theorem lw_p103 : lw_okq (⟨"WonderParcelsModel", "readBookLine", "()Z"⟩, 49) := ⟨⟨by decide +kernel, by decide +kernel⟩, List.mem_of_getElem? (i := 1130) (by decide +kernel), List.mem_of_getElem? (i := 1716) (by decide +kernel), List.mem_of_getElem? (i := 1717) (by decide +kernel)⟩
theorem lw_p104 : lw_okq (⟨"WonderParcelsModel", "readDoes", "(I)Z"⟩, 49) := ⟨⟨by decide +kernel, by decide +kernel⟩, List.mem_of_getElem? (i := 1130) (by decide +kernel), List.mem_of_getElem? (i := 1720) (by decide +kernel), List.mem_of_getElem? (i := 1721) (by decide +kernel)⟩
theorem lw_p105 : lw_okq (⟨"WonderParcelsModel", "readParcelName", "()Z"⟩, 49) := ⟨⟨by decide +kernel, by decide +kernel⟩, List.mem_of_getElem? (i := 1130) (by decide +kernel), List.mem_of_getElem? (i := 1724) (by decide +kernel), List.mem_of_getElem? (i := 1725) (by decide +kernel)⟩
theorem lw_p106 : lw_okq (⟨"WonderParcelsModel", "readNamed", "(II)Z"⟩, 49) := ⟨⟨by decide +kernel, by decide +kernel⟩, List.mem_of_getElem? (i := 1130) (by decide +kernel), List.mem_of_getElem? (i := 1728) (by decide +kernel), List.mem_of_getElem? (i := 1729) (by decide +kernel)⟩
theorem lw_p107 : lw_okq (⟨"WonderParcelsModel", "keep", "(IZ)Z"⟩, 49) := ⟨⟨by decide +kernel, by decide +kernel⟩, List.mem_of_getElem? (i := 1130) (by decide +kernel), List.mem_of_getElem? (i := 1732) (by decide +kernel), List.mem_of_getElem? (i := 1733) (by decide +kernel)⟩
theorem lw_p108 : lw_okq (⟨"WonderParcelsModel", "readIdeaName", "()Z"⟩, 49) := ⟨⟨by decide +kernel, by decide +kernel⟩, List.mem_of_getElem? (i := 1130) (by decide +kernel), List.mem_of_getElem? (i := 1736) (by decide +kernel), List.mem_of_getElem? (i := 1737) (by decide +kernel)⟩
theorem lw_p109 : lw_okq (⟨"WonderParcelsModel", "goBy", "(I)I"⟩, 49) := ⟨⟨by decide +kernel, by decide +kernel⟩, List.mem_of_getElem? (i := 1130) (by decide +kernel), List.mem_of_getElem? (i := 1740) (by decide +kernel), List.mem_of_getElem? (i := 1741) (by decide +kernel)⟩
theorem lw_p110 : lw_okq (⟨"WonderParcelsModel", "stay", "(Z)V"⟩, 49) := ⟨⟨by decide +kernel, by decide +kernel⟩, List.mem_of_getElem? (i := 1130) (by decide +kernel), List.mem_of_getElem? (i := 1744) (by decide +kernel), List.mem_of_getElem? (i := 1745) (by decide +kernel)⟩
theorem lw_p111 : lw_okq (⟨"WonderParcelsModel", "readOr", "()Z"⟩, 49) := ⟨⟨by decide +kernel, by decide +kernel⟩, List.mem_of_getElem? (i := 1130) (by decide +kernel), List.mem_of_getElem? (i := 1756) (by decide +kernel), List.mem_of_getElem? (i := 1757) (by decide +kernel)⟩
def lw_privs_7 : List (MethodName × Nat) := [(⟨"WonderParcelsModel", "worthOf", "(II)I"⟩, 49), (⟨"WonderParcelsModel", "writeWord", "(J)V"⟩, 49), (⟨"WonderParcelsModel", "write", "(I)V"⟩, 49), (⟨"WonderParcelsModel", "writeNext", "(J)V"⟩, 49), (⟨"WonderParcelsModel", "drawDays", "(II)I"⟩, 49), (⟨"WonderParcelsModel", "drawsFor", "(I)V"⟩, 49), (⟨"WonderParcelsModel", "draw", "(I)I"⟩, 49), (⟨"WonderParcelsModel", "readBookLine", "()Z"⟩, 49), (⟨"WonderParcelsModel", "readDoes", "(I)Z"⟩, 49), (⟨"WonderParcelsModel", "readParcelName", "()Z"⟩, 49), (⟨"WonderParcelsModel", "readNamed", "(II)Z"⟩, 49), (⟨"WonderParcelsModel", "keep", "(IZ)Z"⟩, 49), (⟨"WonderParcelsModel", "readIdeaName", "()Z"⟩, 49), (⟨"WonderParcelsModel", "goBy", "(I)I"⟩, 49), (⟨"WonderParcelsModel", "stay", "(Z)V"⟩, 49), (⟨"WonderParcelsModel", "readOr", "()Z"⟩, 49)]
theorem lw_r7 : ∀ q ∈ lw_privs_7, lw_okq q := List.forall_mem_cons.mpr ⟨lw_p96, List.forall_mem_cons.mpr ⟨lw_p97, List.forall_mem_cons.mpr ⟨lw_p98, List.forall_mem_cons.mpr ⟨lw_p99, List.forall_mem_cons.mpr ⟨lw_p100, List.forall_mem_cons.mpr ⟨lw_p101, List.forall_mem_cons.mpr ⟨lw_p102, List.forall_mem_cons.mpr ⟨lw_p103, List.forall_mem_cons.mpr ⟨lw_p104, List.forall_mem_cons.mpr ⟨lw_p105, List.forall_mem_cons.mpr ⟨lw_p106, List.forall_mem_cons.mpr ⟨lw_p107, List.forall_mem_cons.mpr ⟨lw_p108, List.forall_mem_cons.mpr ⟨lw_p109, List.forall_mem_cons.mpr ⟨lw_p110, List.forall_mem_cons.mpr ⟨lw_p111, fun _ h => absurd h List.not_mem_nil⟩⟩⟩⟩⟩⟩⟩⟩⟩⟩⟩⟩⟩⟩⟩⟩
theorem lw_p112 : lw_okq (⟨"WonderParcelsModel", "readAnd", "()Z"⟩, 49) := ⟨⟨by decide +kernel, by decide +kernel⟩, List.mem_of_getElem? (i := 1130) (by decide +kernel), List.mem_of_getElem? (i := 1760) (by decide +kernel), List.mem_of_getElem? (i := 1761) (by decide +kernel)⟩
theorem lw_p113 : lw_okq (⟨"WonderParcelsModel", "readSaid", "()Z"⟩, 49) := ⟨⟨by decide +kernel, by decide +kernel⟩, List.mem_of_getElem? (i := 1130) (by decide +kernel), List.mem_of_getElem? (i := 1764) (by decide +kernel), List.mem_of_getElem? (i := 1765) (by decide +kernel)⟩
theorem lw_p114 : lw_okq (⟨"WonderParcelsModel", "readBracket", "()Z"⟩, 49) := ⟨⟨by decide +kernel, by decide +kernel⟩, List.mem_of_getElem? (i := 1130) (by decide +kernel), List.mem_of_getElem? (i := 1768) (by decide +kernel), List.mem_of_getElem? (i := 1769) (by decide +kernel)⟩
theorem lw_p115 : lw_okq (⟨"WonderParcelsModel", "readNot", "()Z"⟩, 49) := ⟨⟨by decide +kernel, by decide +kernel⟩, List.mem_of_getElem? (i := 1130) (by decide +kernel), List.mem_of_getElem? (i := 1772) (by decide +kernel), List.mem_of_getElem? (i := 1773) (by decide +kernel)⟩
theorem lw_p116 : lw_okq (⟨"WonderParcelsModel", "saysOne", "(IIII)I"⟩, 49) := ⟨⟨by decide +kernel, by decide +kernel⟩, List.mem_of_getElem? (i := 1130) (by decide +kernel), List.mem_of_getElem? (i := 1776) (by decide +kernel), List.mem_of_getElem? (i := 1777) (by decide +kernel)⟩
theorem lw_p117 : lw_okq (⟨"WonderParcelsModel", "readOf", "(I)Z"⟩, 49) := ⟨⟨by decide +kernel, by decide +kernel⟩, List.mem_of_getElem? (i := 1130) (by decide +kernel), List.mem_of_getElem? (i := 1780) (by decide +kernel), List.mem_of_getElem? (i := 1781) (by decide +kernel)⟩
theorem lw_p118 : lw_okq (⟨"WonderParcelsModel", "readCompare", "(I)Z"⟩, 49) := ⟨⟨by decide +kernel, by decide +kernel⟩, List.mem_of_getElem? (i := 1130) (by decide +kernel), List.mem_of_getElem? (i := 1784) (by decide +kernel), List.mem_of_getElem? (i := 1785) (by decide +kernel)⟩
theorem lw_p119 : lw_okq (⟨"WonderParcelsModel", "holds", "(II)Z"⟩, 49) := ⟨⟨by decide +kernel, by decide +kernel⟩, List.mem_of_getElem? (i := 1130) (by decide +kernel), List.mem_of_getElem? (i := 1792) (by decide +kernel), List.mem_of_getElem? (i := 1793) (by decide +kernel)⟩
def lw_privs_8 : List (MethodName × Nat) := [(⟨"WonderParcelsModel", "readAnd", "()Z"⟩, 49), (⟨"WonderParcelsModel", "readSaid", "()Z"⟩, 49), (⟨"WonderParcelsModel", "readBracket", "()Z"⟩, 49), (⟨"WonderParcelsModel", "readNot", "()Z"⟩, 49), (⟨"WonderParcelsModel", "saysOne", "(IIII)I"⟩, 49), (⟨"WonderParcelsModel", "readOf", "(I)Z"⟩, 49), (⟨"WonderParcelsModel", "readCompare", "(I)Z"⟩, 49), (⟨"WonderParcelsModel", "holds", "(II)Z"⟩, 49)]
theorem lw_r8 : ∀ q ∈ lw_privs_8, lw_okq q := List.forall_mem_cons.mpr ⟨lw_p112, List.forall_mem_cons.mpr ⟨lw_p113, List.forall_mem_cons.mpr ⟨lw_p114, List.forall_mem_cons.mpr ⟨lw_p115, List.forall_mem_cons.mpr ⟨lw_p116, List.forall_mem_cons.mpr ⟨lw_p117, List.forall_mem_cons.mpr ⟨lw_p118, List.forall_mem_cons.mpr ⟨lw_p119, fun _ h => absurd h List.not_mem_nil⟩⟩⟩⟩⟩⟩⟩⟩
def lw_privs : List (MethodName × Nat) := lw_privs_1 ++ (lw_privs_2 ++ (lw_privs_3 ++ (lw_privs_4 ++ (lw_privs_5 ++ (lw_privs_6 ++ (lw_privs_7 ++ (lw_privs_8)))))))
def lw_tbl : List Cond := k2_sels lw_privs ++ tables_1
theorem lw_privs_ok : ∀ q ∈ lw_privs, lw_okq q := by
  show ∀ q ∈ lw_privs_1 ++ (lw_privs_2 ++ (lw_privs_3 ++ (lw_privs_4 ++ (lw_privs_5 ++ (lw_privs_6 ++ (lw_privs_7 ++ (lw_privs_8))))))), lw_okq q
  exact List.forall_mem_append.mpr ⟨lw_r1, List.forall_mem_append.mpr ⟨lw_r2, List.forall_mem_append.mpr ⟨lw_r3, List.forall_mem_append.mpr ⟨lw_r4, List.forall_mem_append.mpr ⟨lw_r5, List.forall_mem_append.mpr ⟨lw_r6, List.forall_mem_append.mpr ⟨lw_r7, lw_r8⟩⟩⟩⟩⟩⟩⟩
-- ===== end of PART A; then your names; then what follows =====
end
section
/-! ===== BEGIN words of one list among another's, by their places ===== -/
theorem goodIn_r {big : List Cond} (ws : List Cond) (ps : List Nat) (hp : ws = ps.filterMap (fun i => big[i]?)) (h : ws.all goodWord = true) : GoodIn big ws := by
  intro w hw
  have h1 := List.all_eq_true.mp h w hw
  rw [hp] at hw
  obtain ⟨i, -, hi⟩ := List.mem_filterMap.mp hw
  have hm : w ∈ big := by first | exact List.mem_of_getElem? hi | exact List.getElem?_mem hi
  exact ⟨hm, good_of_word h1⟩
theorem goodIn_app {big a b : List Cond} (ha : GoodIn big a) (hb : GoodIn big b) : GoodIn big (a ++ b) := fun w h => (List.mem_append.mp h).elim (ha w) (hb w)
theorem goodIn_ca {big a b : List Cond} {c : Cond} (ha : GoodIn big (c :: a)) (hb : GoodIn big b) : GoodIn big (c :: (a ++ b)) := fun w h => (List.mem_cons.mp h).elim (fun e => ha w (List.mem_cons.mpr (Or.inl e))) (fun h => (List.mem_append.mp h).elim (fun h => ha w (List.mem_cons.mpr (Or.inr h))) (hb w))
theorem goodIn_sub {big ws : List Cond} (hm : ∀ w ∈ ws, w ∈ big) (h : ws.all goodWord = true) : GoodIn big ws := fun w hw => ⟨hm w hw, good_of_word (List.all_eq_true.mp h w hw)⟩
/-! ===== END ===== -/
end
section
def RX0 : String := "WonderParcels$Book"
def TX0 : u_T := fun k => match k with
  | 0 => ("WonderParcels$Book", "what", "[I", true)
  | 1 => ("WonderParcels$Book", "first", "[I", true)
  | 2 => ("WonderParcels$Book", "second", "[I", true)
  | 3 => ("WonderParcels$Book", "lines", "I", false)
  | _ => ("WonderParcels$Book", "lived", "I", false)
def tyX0 : Nat → FieldType := fun k => match k with
  | 0 => .array .int
  | 1 => .array .int
  | 2 => .array .int
  | 3 => .int
  | _ => .int
abbrev wsX00 : List Cond := u_ws RX0 TX0 5
theorem nmX0 : ∀ a, a < 5 → ∀ b, b < 5 → a ≠ b → (TX0 a).2.1 ≠ (TX0 b).2.1 := by decide +kernel
theorem tyX0_ok : ∀ k, k < 5 → parseFieldDescriptor (TX0 k).2.2.1 = some (tyX0 k) := by decide +kernel
abbrev cX0_init : ByteArray := prog_2_method_1_code
def yX0_init : MethodName := ⟨RX0, "<init>", "()V"⟩
abbrev cX0_read : ByteArray := prog_2_method_2_code
def yX0_read : MethodName := ⟨RX0, "read", "(LWonderParcels$Tape;LWonderParcels$Post;)V"⟩
abbrev cX0_beginsLine : ByteArray := prog_2_method_3_code
def yX0_beginsLine : MethodName := ⟨RX0, "beginsLine", "(LWonderParcels$Tape;I)Z"⟩
abbrev cX0_readVerb : ByteArray := prog_2_method_4_code
def yX0_readVerb : MethodName := ⟨RX0, "readVerb", "(LWonderParcels$Tape;LWonderParcels$Post;I)V"⟩
abbrev cX0_readOther : ByteArray := prog_2_method_5_code
def yX0_readOther : MethodName := ⟨RX0, "readOther", "(LWonderParcels$Tape;LWonderParcels$Post;I)V"⟩
abbrev cX0_addLine : ByteArray := prog_2_method_6_code
def yX0_addLine : MethodName := ⟨RX0, "addLine", "(III)V"⟩
abbrev cX0_liveIn : ByteArray := prog_2_method_7_code
def yX0_liveIn : MethodName := ⟨RX0, "liveIn", "(LWonderParcels$World;)I"⟩
abbrev cX0_liveLine : ByteArray := prog_2_method_8_code
def yX0_liveLine : MethodName := ⟨RX0, "liveLine", "(LWonderParcels$World;I)I"⟩
abbrev cX0_because : ByteArray := prog_2_method_9_code
def yX0_because : MethodName := ⟨RX0, "because", "(II)I"⟩
abbrev cX0_guessIn : ByteArray := prog_2_method_10_code
def yX0_guessIn : MethodName := ⟨RX0, "guessIn", "(LWonderParcels$World;II)I"⟩
def RX1 : String := "WonderParcels$History"
def TX1 : u_T := fun k => match k with
  | 0 => ("WonderParcels$History", "worlds", "[LWonderParcels$World;", true)
  | 1 => ("WonderParcels$History", "next", "I", false)
  | _ => ("WonderParcels$History", "kept", "I", false)
def tyX1 : Nat → FieldType := fun k => match k with
  | 0 => .array (.object "WonderParcels$World")
  | 1 => .int
  | _ => .int
abbrev wsX10 : List Cond := u_ws RX1 TX1 3
theorem nmX1 : ∀ a, a < 3 → ∀ b, b < 3 → a ≠ b → (TX1 a).2.1 ≠ (TX1 b).2.1 := by decide +kernel
theorem tyX1_ok : ∀ k, k < 3 → parseFieldDescriptor (TX1 k).2.2.1 = some (tyX1 k) := by decide +kernel
abbrev cX1_init : ByteArray := prog_3_method_1_code
def yX1_init : MethodName := ⟨RX1, "<init>", "(LWonderParcels$Post;)V"⟩
abbrev cX1_forget : ByteArray := prog_3_method_2_code
def yX1_forget : MethodName := ⟨RX1, "forget", "()V"⟩
abbrev cX1_prepare : ByteArray := prog_3_method_3_code
def yX1_prepare : MethodName := ⟨RX1, "prepare", "(LWonderParcels$World;)V"⟩
abbrev cX1_keep : ByteArray := prog_3_method_4_code
def yX1_keep : MethodName := ⟨RX1, "keep", "()V"⟩
abbrev cX1_giveBack : ByteArray := prog_3_method_5_code
def yX1_giveBack : MethodName := ⟨RX1, "giveBack", "(LWonderParcels$World;)I"⟩
def RX2 : String := "WonderParcels$Image"
def TX2 : u_T := fun k => match k with
  | 0 => ("WonderParcels$Image", "world", "LWonderParcels$World;", true)
  | 1 => ("WonderParcels$Image", "sentence", "LWonderParcels$Sentence;", false)
  | _ => ("WonderParcels$Image", "taken", "Z", false)
def tyX2 : Nat → FieldType := fun k => match k with
  | 0 => .object "WonderParcels$World"
  | 1 => .object "WonderParcels$Sentence"
  | _ => .boolean
abbrev wsX20 : List Cond := u_ws RX2 TX2 3
theorem nmX2 : ∀ a, a < 3 → ∀ b, b < 3 → a ≠ b → (TX2 a).2.1 ≠ (TX2 b).2.1 := by decide +kernel
theorem tyX2_ok : ∀ k, k < 3 → parseFieldDescriptor (TX2 k).2.2.1 = some (tyX2 k) := by decide +kernel
abbrev cX2_init : ByteArray := prog_4_method_1_code
def yX2_init : MethodName := ⟨RX2, "<init>", "(LWonderParcels$Post;)V"⟩
abbrev cX2_take : ByteArray := prog_4_method_2_code
def yX2_take : MethodName := ⟨RX2, "take", "(LWonderParcels$World;LWonderParcels$Sentence;)V"⟩
def RX3 : String := "WonderParcels$Post"
def TX3 : u_T := fun k => match k with
  | 0 => ("WonderParcels$Post", "names", "[J", true)
  | 1 => ("WonderParcels$Post", "many", "[I", true)
  | 2 => ("WonderParcels$Post", "need", "[I", true)
  | 3 => ("WonderParcels$Post", "quarrel", "[I", true)
  | 4 => ("WonderParcels$Post", "keen", "[I", true)
  | 5 => ("WonderParcels$Post", "leak", "I", false)
  | 6 => ("WonderParcels$Post", "guess", "I", false)
  | 7 => ("WonderParcels$Post", "leakTold", "Z", false)
  | _ => ("WonderParcels$Post", "guessTold", "Z", false)
def tyX3 : Nat → FieldType := fun k => match k with
  | 0 => .array .long
  | 1 => .array .int
  | 2 => .array .int
  | 3 => .array .int
  | 4 => .array .int
  | 5 => .int
  | 6 => .int
  | 7 => .boolean
  | _ => .boolean
abbrev wsX30 : List Cond := u_ws RX3 TX3 9
theorem nmX3 : ∀ a, a < 9 → ∀ b, b < 9 → a ≠ b → (TX3 a).2.1 ≠ (TX3 b).2.1 := by decide +kernel
theorem tyX3_ok : ∀ k, k < 9 → parseFieldDescriptor (TX3 k).2.2.1 = some (tyX3 k) := by decide +kernel
abbrev cX3_init : ByteArray := prog_5_method_1_code
def yX3_init : MethodName := ⟨RX3, "<init>", "()V"⟩
abbrev cX3_nameOf : ByteArray := prog_5_method_2_code
def yX3_nameOf : MethodName := ⟨RX3, "nameOf", "(II)J"⟩
abbrev cX3_numberOf : ByteArray := prog_5_method_3_code
def yX3_numberOf : MethodName := ⟨RX3, "numberOf", "(JI)I"⟩
abbrev cX3_read : ByteArray := prog_5_method_4_code
def yX3_read : MethodName := ⟨RX3, "read", "(LWonderParcels$Tape;LWonderParcels$World;)I"⟩
abbrev cX3_beginsLine : ByteArray := prog_5_method_5_code
def yX3_beginsLine : MethodName := ⟨RX3, "beginsLine", "(LWonderParcels$Tape;I)Z"⟩
abbrev cX3_readNamed : ByteArray := prog_5_method_6_code
def yX3_readNamed : MethodName := ⟨RX3, "readNamed", "(LWonderParcels$Tape;LWonderParcels$World;I)V"⟩
abbrev cX3_tellName : ByteArray := prog_5_method_7_code
def yX3_tellName : MethodName := ⟨RX3, "tellName", "(LWonderParcels$Tape;I)I"⟩
abbrev cX3_isTold : ByteArray := prog_5_method_8_code
def yX3_isTold : MethodName := ⟨RX3, "isTold", "(J)Z"⟩
abbrev cX3_readSits : ByteArray := prog_5_method_9_code
def yX3_readSits : MethodName := ⟨RX3, "readSits", "(LWonderParcels$Tape;LWonderParcels$World;)V"⟩
abbrev cX3_readHas : ByteArray := prog_5_method_10_code
def yX3_readHas : MethodName := ⟨RX3, "readHas", "(LWonderParcels$Tape;LWonderParcels$World;)V"⟩
abbrev cX3_readQuarrel : ByteArray := prog_5_method_11_code
def yX3_readQuarrel : MethodName := ⟨RX3, "readQuarrel", "(LWonderParcels$Tape;)V"⟩
abbrev cX3_quarrel : ByteArray := prog_5_method_12_code
def yX3_quarrel : MethodName := ⟨RX3, "quarrel", "(II)Z"⟩
def RX4 : String := "WonderParcels$Rooms"
def TX4 : u_T := fun k => match k with
  | 0 => ("WonderParcels$Rooms", "idea", "[I", true)
  | _ => ("WonderParcels$Rooms", "room", "[I", true)
def tyX4 : Nat → FieldType := fun k => match k with
  | 0 => .array .int
  | _ => .array .int
abbrev wsX40 : List Cond := u_ws RX4 TX4 2
theorem nmX4 : ∀ a, a < 2 → ∀ b, b < 2 → a ≠ b → (TX4 a).2.1 ≠ (TX4 b).2.1 := by decide +kernel
theorem tyX4_ok : ∀ k, k < 2 → parseFieldDescriptor (TX4 k).2.2.1 = some (tyX4 k) := by decide +kernel
abbrev cX4_init : ByteArray := prog_6_method_1_code
def yX4_init : MethodName := ⟨RX4, "<init>", "()V"⟩
abbrev cX4_fewestFor : ByteArray := prog_6_method_2_code
def yX4_fewestFor : MethodName := ⟨RX4, "fewestFor", "(LWonderParcels$World;)I"⟩
abbrev cX4_canPlace : ByteArray := prog_6_method_3_code
def yX4_canPlace : MethodName := ⟨RX4, "canPlace", "(LWonderParcels$Post;II)Z"⟩
abbrev cX4_isQuiet : ByteArray := prog_6_method_4_code
def yX4_isQuiet : MethodName := ⟨RX4, "isQuiet", "(LWonderParcels$Post;II)Z"⟩
def RX5 : String := "WonderParcels$Sentence"
def TX5 : u_T := fun k => match k with
  | 0 => ("WonderParcels$Sentence", "what", "[I", true)
  | 1 => ("WonderParcels$Sentence", "sign", "[I", true)
  | 2 => ("WonderParcels$Sentence", "value", "[I", true)
  | 3 => ("WonderParcels$Sentence", "steps", "I", false)
  | _ => ("WonderParcels$Sentence", "ones", "I", false)
def tyX5 : Nat → FieldType := fun k => match k with
  | 0 => .array .int
  | 1 => .array .int
  | 2 => .array .int
  | 3 => .int
  | _ => .int
abbrev wsX50 : List Cond := u_ws RX5 TX5 5
theorem nmX5 : ∀ a, a < 5 → ∀ b, b < 5 → a ≠ b → (TX5 a).2.1 ≠ (TX5 b).2.1 := by decide +kernel
theorem tyX5_ok : ∀ k, k < 5 → parseFieldDescriptor (TX5 k).2.2.1 = some (tyX5 k) := by decide +kernel
abbrev cX5_init : ByteArray := prog_7_method_1_code
def yX5_init : MethodName := ⟨RX5, "<init>", "()V"⟩
abbrev cX5_read : ByteArray := prog_7_method_2_code
def yX5_read : MethodName := ⟨RX5, "read", "(LWonderParcels$Tape;LWonderParcels$Post;)V"⟩
abbrev cX5_readCond : ByteArray := prog_7_method_3_code
def yX5_readCond : MethodName := ⟨RX5, "readCond", "(LWonderParcels$Tape;LWonderParcels$Post;I)V"⟩
abbrev cX5_readOne : ByteArray := prog_7_method_4_code
def yX5_readOne : MethodName := ⟨RX5, "readOne", "(LWonderParcels$Tape;LWonderParcels$Post;I)V"⟩
abbrev cX5_readPlain : ByteArray := prog_7_method_5_code
def yX5_readPlain : MethodName := ⟨RX5, "readPlain", "(LWonderParcels$Tape;LWonderParcels$Post;I)V"⟩
abbrev cX5_addStep : ByteArray := prog_7_method_6_code
def yX5_addStep : MethodName := ⟨RX5, "addStep", "(III)V"⟩
abbrev cX5_holdsOf : ByteArray := prog_7_method_7_code
def yX5_holdsOf : MethodName := ⟨RX5, "holdsOf", "(LWonderParcels$World;I)Z"⟩
abbrev cX5_isSo : ByteArray := prog_7_method_8_code
def yX5_isSo : MethodName := ⟨RX5, "isSo", "(LWonderParcels$World;II)Z"⟩
abbrev cX5_compares : ByteArray := prog_7_method_9_code
def yX5_compares : MethodName := ⟨RX5, "compares", "(III)Z"⟩
def RX6 : String := "WonderParcels$Tag"
def TX6 : u_T := fun k => match k with
  | 0 => ("WonderParcels$Tag", "bytes", "[B", true)
  | _ => ("WonderParcels$Tag", "length", "I", false)
def tyX6 : Nat → FieldType := fun k => match k with
  | 0 => .array .byte
  | _ => .int
abbrev wsX60 : List Cond := u_ws RX6 TX6 2
theorem nmX6 : ∀ a, a < 2 → ∀ b, b < 2 → a ≠ b → (TX6 a).2.1 ≠ (TX6 b).2.1 := by decide +kernel
theorem tyX6_ok : ∀ k, k < 2 → parseFieldDescriptor (TX6 k).2.2.1 = some (tyX6 k) := by decide +kernel
abbrev cX6_init : ByteArray := prog_8_method_1_code
def yX6_init : MethodName := ⟨RX6, "<init>", "()V"⟩
abbrev cX6_put : ByteArray := prog_8_method_2_code
def yX6_put : MethodName := ⟨RX6, "put", "(I)V"⟩
abbrev cX6_putText : ByteArray := prog_8_method_3_code
def yX6_putText : MethodName := ⟨RX6, "putText", "(Ljava/lang/String;)V"⟩
abbrev cX6_putName : ByteArray := prog_8_method_4_code
def yX6_putName : MethodName := ⟨RX6, "putName", "(J)V"⟩
def RX7 : String := "WonderParcels$Tape"
def TX7 : u_T := fun k => match k with
  | 0 => ("WonderParcels$Tape", "bytes", "[B", true)
  | 1 => ("WonderParcels$Tape", "words", "[J", true)
  | 2 => ("WonderParcels$Tape", "length", "I", false)
  | 3 => ("WonderParcels$Tape", "stop", "I", false)
  | 4 => ("WonderParcels$Tape", "tooLong", "Z", false)
  | 5 => ("WonderParcels$Tape", "begin", "I", false)
  | 6 => ("WonderParcels$Tape", "after", "I", false)
  | 7 => ("WonderParcels$Tape", "kind", "I", false)
  | 8 => ("WonderParcels$Tape", "name", "J", false)
  | 9 => ("WonderParcels$Tape", "number", "I", false)
  | 10 => ("WonderParcels$Tape", "fault", "I", false)
  | _ => ("WonderParcels$Tape", "place", "I", false)
def tyX7 : Nat → FieldType := fun k => match k with
  | 0 => .array .byte
  | 1 => .array .long
  | 2 => .int
  | 3 => .int
  | 4 => .boolean
  | 5 => .int
  | 6 => .int
  | 7 => .int
  | 8 => .long
  | 9 => .int
  | 10 => .int
  | _ => .int
abbrev wsX70 : List Cond := u_ws RX7 TX7 12
theorem nmX7 : ∀ a, a < 12 → ∀ b, b < 12 → a ≠ b → (TX7 a).2.1 ≠ (TX7 b).2.1 := by decide +kernel
theorem tyX7_ok : ∀ k, k < 12 → parseFieldDescriptor (TX7 k).2.2.1 = some (tyX7 k) := by decide +kernel
abbrev cX7_init : ByteArray := prog_9_method_1_code
def yX7_init : MethodName := ⟨RX7, "<init>", "()V"⟩
abbrev cX7_hasPlaceForTwenty : ByteArray := prog_9_method_2_code
def yX7_hasPlaceForTwenty : MethodName := ⟨RX7, "hasPlaceForTwenty", "()Z"⟩
abbrev cX7_putFour : ByteArray := prog_9_method_3_code
def yX7_putFour : MethodName := ⟨RX7, "putFour", "(I)V"⟩
abbrev cX7_at : ByteArray := prog_9_method_4_code
def yX7_at : MethodName := ⟨RX7, "at", "(I)I"⟩
abbrev cX7_startText : ByteArray := prog_9_method_5_code
def yX7_startText : MethodName := ⟨RX7, "startText", "(I)V"⟩
abbrev cX7_goesOn : ByteArray := prog_9_method_6_code
def yX7_goesOn : MethodName := ⟨RX7, "goesOn", "()Z"⟩
abbrev cX7_sees : ByteArray := prog_9_method_7_code
def yX7_sees : MethodName := ⟨RX7, "sees", "(I)Z"⟩
abbrev cX7_refuse : ByteArray := prog_9_method_8_code
def yX7_refuse : MethodName := ⟨RX7, "refuse", "(I)V"⟩
abbrev cX7_pass : ByteArray := prog_9_method_9_code
def yX7_pass : MethodName := ⟨RX7, "pass", "()V"⟩
abbrev cX7_passOnly : ByteArray := prog_9_method_10_code
def yX7_passOnly : MethodName := ⟨RX7, "passOnly", "(I)V"⟩
abbrev cX7_takeNumber : ByteArray := prog_9_method_11_code
def yX7_takeNumber : MethodName := ⟨RX7, "takeNumber", "(II)I"⟩
abbrev cX7_nameAhead : ByteArray := prog_9_method_12_code
def yX7_nameAhead : MethodName := ⟨RX7, "nameAhead", "(LWonderParcels$Post;I)I"⟩
abbrev cX7_takeName : ByteArray := prog_9_method_13_code
def yX7_takeName : MethodName := ⟨RX7, "takeName", "(LWonderParcels$Post;I)I"⟩
abbrev cX7_readRun : ByteArray := prog_9_method_14_code
def yX7_readRun : MethodName := ⟨RX7, "readRun", "()V"⟩
abbrev cX7_isBlank : ByteArray := prog_9_method_15_code
def yX7_isBlank : MethodName := ⟨RX7, "isBlank", "(I)Z"⟩
abbrev cX7_isSign : ByteArray := prog_9_method_16_code
def yX7_isSign : MethodName := ⟨RX7, "isSign", "(I)Z"⟩
def RX8 : String := "WonderParcels$World"
def TX8 : u_T := fun k => match k with
  | 0 => ("WonderParcels$World", "post", "LWonderParcels$Post;", false)
  | 1 => ("WonderParcels$World", "day", "I", false)
  | 2 => ("WonderParcels$World", "much", "[I", true)
  | 3 => ("WonderParcels$World", "room", "[I", true)
  | 4 => ("WonderParcels$World", "bulge", "[I", true)
  | 5 => ("WonderParcels$World", "open", "[I", true)
  | 6 => ("WonderParcels$World", "turned", "[I", true)
  | 7 => ("WonderParcels$World", "wish", "[I", true)
  | 8 => ("WonderParcels$World", "seat", "[I", true)
  | 9 => ("WonderParcels$World", "right", "[I", true)
  | 10 => ("WonderParcels$World", "wrong", "[I", true)
  | 11 => ("WonderParcels$World", "gain", "[I", true)
  | _ => ("WonderParcels$World", "seed", "I", false)
def tyX8 : Nat → FieldType := fun k => match k with
  | 0 => .object "WonderParcels$Post"
  | 1 => .int
  | 2 => .array .int
  | 3 => .array .int
  | 4 => .array .int
  | 5 => .array .int
  | 6 => .array .int
  | 7 => .array .int
  | 8 => .array .int
  | 9 => .array .int
  | 10 => .array .int
  | 11 => .array .int
  | _ => .int
abbrev wsX80 : List Cond := u_ws RX8 TX8 13
theorem nmX8 : ∀ a, a < 13 → ∀ b, b < 13 → a ≠ b → (TX8 a).2.1 ≠ (TX8 b).2.1 := by decide +kernel
theorem tyX8_ok : ∀ k, k < 13 → parseFieldDescriptor (TX8 k).2.2.1 = some (tyX8 k) := by decide +kernel
abbrev cX8_init : ByteArray := prog_10_method_1_code
def yX8_init : MethodName := ⟨RX8, "<init>", "(LWonderParcels$Post;)V"⟩
abbrev cX8_begin : ByteArray := prog_10_method_2_code
def yX8_begin : MethodName := ⟨RX8, "begin", "(LWonderParcels$Post;)V"⟩
abbrev cX8_takeFrom : ByteArray := prog_10_method_3_code
def yX8_takeFrom : MethodName := ⟨RX8, "takeFrom", "(LWonderParcels$World;)V"⟩
abbrev cX8_has : ByteArray := prog_10_method_4_code
def yX8_has : MethodName := ⟨RX8, "has", "(II)I"⟩
abbrev cX8_put : ByteArray := prog_10_method_5_code
def yX8_put : MethodName := ⟨RX8, "put", "(III)V"⟩
abbrev cX8_isOpen : ByteArray := prog_10_method_6_code
def yX8_isOpen : MethodName := ⟨RX8, "isOpen", "(I)Z"⟩
abbrev cX8_isNow : ByteArray := prog_10_method_7_code
def yX8_isNow : MethodName := ⟨RX8, "isNow", "(I)I"⟩
abbrev cX8_becomes : ByteArray := prog_10_method_8_code
def yX8_becomes : MethodName := ⟨RX8, "becomes", "(II)I"⟩
abbrev cX8_willHave : ByteArray := prog_10_method_9_code
def yX8_willHave : MethodName := ⟨RX8, "willHave", "(III)I"⟩
abbrev cX8_reckonGain : ByteArray := prog_10_method_10_code
def yX8_reckonGain : MethodName := ⟨RX8, "reckonGain", "(I)Z"⟩
abbrev cX8_givesTo : ByteArray := prog_10_method_11_code
def yX8_givesTo : MethodName := ⟨RX8, "givesTo", "(II)I"⟩
abbrev cX8_bulgesMore : ByteArray := prog_10_method_12_code
def yX8_bulgesMore : MethodName := ⟨RX8, "bulgesMore", "(II)I"⟩
abbrev cX8_wishesUnlike : ByteArray := prog_10_method_13_code
def yX8_wishesUnlike : MethodName := ⟨RX8, "wishesUnlike", "(I)Z"⟩
abbrev cX8_daysLeft : ByteArray := prog_10_method_14_code
def yX8_daysLeft : MethodName := ⟨RX8, "daysLeft", "()I"⟩
abbrev cX8_goDays : ByteArray := prog_10_method_15_code
def yX8_goDays : MethodName := ⟨RX8, "goDays", "(I)I"⟩
abbrev cX8_goDay : ByteArray := prog_10_method_16_code
def yX8_goDay : MethodName := ⟨RX8, "goDay", "()V"⟩
abbrev cX8_grow : ByteArray := prog_10_method_17_code
def yX8_grow : MethodName := ⟨RX8, "grow", "(I)V"⟩
abbrev cX8_drawDays : ByteArray := prog_10_method_18_code
def yX8_drawDays : MethodName := ⟨RX8, "drawDays", "(II)I"⟩
abbrev cX8_drawFor : ByteArray := prog_10_method_19_code
def yX8_drawFor : MethodName := ⟨RX8, "drawFor", "(I)V"⟩
abbrev cX8_draw : ByteArray := prog_10_method_20_code
def yX8_draw : MethodName := ⟨RX8, "draw", "(I)I"⟩
abbrev cX8_sitDown : ByteArray := prog_10_method_21_code
def yX8_sitDown : MethodName := ⟨RX8, "sitDown", "(II)I"⟩
abbrev cX8_standUp : ByteArray := prog_10_method_22_code
def yX8_standUp : MethodName := ⟨RX8, "standUp", "(I)I"⟩
abbrev cX8_wishFor : ByteArray := prog_10_method_23_code
def yX8_wishFor : MethodName := ⟨RX8, "wishFor", "(II)I"⟩
abbrev cX8_whyNoGuess : ByteArray := prog_10_method_24_code
def yX8_whyNoGuess : MethodName := ⟨RX8, "whyNoGuess", "(I)I"⟩
abbrev cX8_guessAt : ByteArray := prog_10_method_25_code
def yX8_guessAt : MethodName := ⟨RX8, "guessAt", "(II)Z"⟩
abbrev cX8_lessBy : ByteArray := prog_10_method_26_code
def yX8_lessBy : MethodName := ⟨RX8, "lessBy", "(II)V"⟩
abbrev cX8_openUp : ByteArray := prog_10_method_27_code
def yX8_openUp : MethodName := ⟨RX8, "openUp", "(I)I"⟩
abbrev cX8_carryTo : ByteArray := prog_10_method_28_code
def yX8_carryTo : MethodName := ⟨RX8, "carryTo", "(II)I"⟩
abbrev cX8_seatJust : ByteArray := prog_10_method_29_code
def yX8_seatJust : MethodName := ⟨RX8, "seatJust", "(IILWonderParcels$World;)V"⟩
abbrev cX8_settleAll : ByteArray := prog_10_method_30_code
def yX8_settleAll : MethodName := ⟨RX8, "settleAll", "()I"⟩
abbrev cX8_settle : ByteArray := prog_10_method_31_code
def yX8_settle : MethodName := ⟨RX8, "settle", "(I)V"⟩
abbrev cX8_sizeOf : ByteArray := prog_10_method_32_code
def yX8_sizeOf : MethodName := ⟨RX8, "sizeOf", "(I)I"⟩
abbrev cX8_whoSitsBy : ByteArray := prog_10_method_33_code
def yX8_whoSitsBy : MethodName := ⟨RX8, "whoSitsBy", "(I)I"⟩
abbrev cX8_whichAreOpen : ByteArray := prog_10_method_34_code
def yX8_whichAreOpen : MethodName := ⟨RX8, "whichAreOpen", "()I"⟩
abbrev cX8_whichAreNothing : ByteArray := prog_10_method_35_code
def yX8_whichAreNothing : MethodName := ⟨RX8, "whichAreNothing", "()I"⟩
abbrev cX8_whichAreWatched : ByteArray := prog_10_method_36_code
def yX8_whichAreWatched : MethodName := ⟨RX8, "whichAreWatched", "()I"⟩
abbrev cX8_allThatAllHave : ByteArray := prog_10_method_37_code
def yX8_allThatAllHave : MethodName := ⟨RX8, "allThatAllHave", "()I"⟩
abbrev cX8_sumOfParcels : ByteArray := prog_10_method_38_code
def yX8_sumOfParcels : MethodName := ⟨RX8, "sumOfParcels", "([I)I"⟩
def RX9 : String := "WonderParcels"
def TX9 : u_T := fun k => match k with
  | 0 => ("WonderParcels", "tape", "LWonderParcels$Tape;", true)
  | 1 => ("WonderParcels", "world", "LWonderParcels$World;", true)
  | 2 => ("WonderParcels", "trial", "LWonderParcels$World;", true)
  | 3 => ("WonderParcels", "history", "LWonderParcels$History;", true)
  | 4 => ("WonderParcels", "images", "[LWonderParcels$Image;", true)
  | 5 => ("WonderParcels", "sentence", "LWonderParcels$Sentence;", false)
  | 6 => ("WonderParcels", "book", "LWonderParcels$Book;", true)
  | 7 => ("WonderParcels", "bookTold", "[I", true)
  | 8 => ("WonderParcels", "fewRooms", "LWonderParcels$Rooms;", true)
  | 9 => ("WonderParcels", "seatsAtRest", "[I", true)
  | 10 => ("WonderParcels", "latestTag", "LWonderParcels$Tag;", true)
  | 11 => ("WonderParcels", "latestFault", "I", false)
  | 12 => ("WonderParcels", "whoWouldSit", "I", false)
  | 13 => ("WonderParcels", "whoSurely", "I", false)
  | _ => ("WonderParcels", "whomToAsk", "I", false)
def tyX9 : Nat → FieldType := fun k => match k with
  | 0 => .object "WonderParcels$Tape"
  | 1 => .object "WonderParcels$World"
  | 2 => .object "WonderParcels$World"
  | 3 => .object "WonderParcels$History"
  | 4 => .array (.object "WonderParcels$Image")
  | 5 => .object "WonderParcels$Sentence"
  | 6 => .object "WonderParcels$Book"
  | 7 => .array .int
  | 8 => .object "WonderParcels$Rooms"
  | 9 => .array .int
  | 10 => .object "WonderParcels$Tag"
  | 11 => .int
  | 12 => .int
  | 13 => .int
  | _ => .int
abbrev wsX90 : List Cond := u_ws RX9 TX9 15
theorem nmX9 : ∀ a, a < 15 → ∀ b, b < 15 → a ≠ b → (TX9 a).2.1 ≠ (TX9 b).2.1 := by decide +kernel
theorem tyX9_ok : ∀ k, k < 15 → parseFieldDescriptor (TX9 k).2.2.1 = some (tyX9 k) := by decide +kernel
abbrev cX9_init : ByteArray := prog_1_method_1_code
def yX9_init : MethodName := ⟨RX9, "<init>", "()V"⟩
abbrev cX9_feed : ByteArray := prog_1_method_2_code
def yX9_feed : MethodName := ⟨RX9, "feed", "(IIIII)I"⟩
abbrev cX9_end : ByteArray := prog_1_method_3_code
def yX9_end : MethodName := ⟨RX9, "end", "(I)Z"⟩
abbrev cX9_post : ByteArray := prog_1_method_4_code
def yX9_post : MethodName := ⟨RX9, "post", "()I"⟩
abbrev cX9_fault : ByteArray := prog_1_method_5_code
def yX9_fault : MethodName := ⟨RX9, "fault", "()I"⟩
abbrev cX9_much : ByteArray := prog_1_method_6_code
def yX9_much : MethodName := ⟨RX9, "much", "(II)I"⟩
abbrev cX9_parcel : ByteArray := prog_1_method_7_code
def yX9_parcel : MethodName := ⟨RX9, "parcel", "(II)I"⟩
abbrev cX9_person : ByteArray := prog_1_method_8_code
def yX9_person : MethodName := ⟨RX9, "person", "(II)I"⟩
abbrev cX9_need : ByteArray := prog_1_method_9_code
def yX9_need : MethodName := ⟨RX9, "need", "(I)I"⟩
abbrev cX9_quarrels : ByteArray := prog_1_method_10_code
def yX9_quarrels : MethodName := ⟨RX9, "quarrels", "(I)I"⟩
abbrev cX9_now : ByteArray := prog_1_method_11_code
def yX9_now : MethodName := ⟨RX9, "now", "(I)I"⟩
abbrev cX9_sit : ByteArray := prog_1_method_12_code
def yX9_sit : MethodName := ⟨RX9, "sit", "(II)I"⟩
abbrev cX9_stand : ByteArray := prog_1_method_13_code
def yX9_stand : MethodName := ⟨RX9, "stand", "(I)I"⟩
abbrev cX9_wish : ByteArray := prog_1_method_14_code
def yX9_wish : MethodName := ⟨RX9, "wish", "(II)I"⟩
abbrev cX9_guess : ByteArray := prog_1_method_15_code
def yX9_guess : MethodName := ⟨RX9, "guess", "(II)I"⟩
abbrev cX9_open : ByteArray := prog_1_method_16_code
def yX9_open : MethodName := ⟨RX9, "open", "(I)I"⟩
abbrev cX9_carry : ByteArray := prog_1_method_17_code
def yX9_carry : MethodName := ⟨RX9, "carry", "(II)I"⟩
abbrev cX9_days : ByteArray := prog_1_method_18_code
def yX9_days : MethodName := ⟨RX9, "days", "(I)I"⟩
abbrev cX9_undo : ByteArray := prog_1_method_19_code
def yX9_undo : MethodName := ⟨RX9, "undo", "()I"⟩
abbrev cX9_when : ByteArray := prog_1_method_20_code
def yX9_when : MethodName := ⟨RX9, "when", "(II)I"⟩
abbrev cX9_sitters : ByteArray := prog_1_method_21_code
def yX9_sitters : MethodName := ⟨RX9, "sitters", "(III)I"⟩
abbrev cX9_sitting : ByteArray := prog_1_method_22_code
def yX9_sitting : MethodName := ⟨RX9, "sitting", "()I"⟩
abbrev cX9_sat : ByteArray := prog_1_method_23_code
def yX9_sat : MethodName := ⟨RX9, "sat", "()I"⟩
abbrev cX9_surely : ByteArray := prog_1_method_24_code
def yX9_surely : MethodName := ⟨RX9, "surely", "()I"⟩
abbrev cX9_ask : ByteArray := prog_1_method_25_code
def yX9_ask : MethodName := ⟨RX9, "ask", "()I"⟩
abbrev cX9_let : ByteArray := prog_1_method_26_code
def yX9_let : MethodName := ⟨RX9, "let", "(I)I"⟩
abbrev cX9_rooms : ByteArray := prog_1_method_27_code
def yX9_rooms : MethodName := ⟨RX9, "rooms", "()I"⟩
abbrev cX9_roomOf : ByteArray := prog_1_method_28_code
def yX9_roomOf : MethodName := ⟨RX9, "roomOf", "(I)I"⟩
abbrev cX9_rest : ByteArray := prog_1_method_29_code
def yX9_rest : MethodName := ⟨RX9, "rest", "()I"⟩
abbrev cX9_rested : ByteArray := prog_1_method_30_code
def yX9_rested : MethodName := ⟨RX9, "rested", "(I)I"⟩
abbrev cX9_greatest : ByteArray := prog_1_method_31_code
def yX9_greatest : MethodName := ⟨RX9, "greatest", "()I"⟩
abbrev cX9_tag : ByteArray := prog_1_method_32_code
def yX9_tag : MethodName := ⟨RX9, "tag", "(I)I"⟩
abbrev cX9_byteAt : ByteArray := prog_1_method_33_code
def yX9_byteAt : MethodName := ⟨RX9, "byteAt", "(I)I"⟩
abbrev cX9_drawn : ByteArray := prog_1_method_34_code
def yX9_drawn : MethodName := ⟨RX9, "drawn", "(II)I"⟩
abbrev cX9_odds : ByteArray := prog_1_method_35_code
def yX9_odds : MethodName := ⟨RX9, "odds", "(IIII)I"⟩
abbrev cX9_book : ByteArray := prog_1_method_36_code
def yX9_book : MethodName := ⟨RX9, "book", "(I)I"⟩
abbrev cX9_told : ByteArray := prog_1_method_37_code
def yX9_told : MethodName := ⟨RX9, "told", "(I)I"⟩
abbrev cX9_sentence : ByteArray := prog_1_method_38_code
def yX9_sentence : MethodName := ⟨RX9, "sentence", "()I"⟩
abbrev cX9_said : ByteArray := prog_1_method_39_code
def yX9_said : MethodName := ⟨RX9, "said", "(I)I"⟩
abbrev cX9_image : ByteArray := prog_1_method_40_code
def yX9_image : MethodName := ⟨RX9, "image", "(I)Z"⟩
abbrev cX9_restore : ByteArray := prog_1_method_41_code
def yX9_restore : MethodName := ⟨RX9, "restore", "(I)Z"⟩
abbrev cX9_count : ByteArray := prog_1_method_42_code
def yX9_count : MethodName := ⟨RX9, "count", "(I)I"⟩
abbrev cX9_isOf : ByteArray := prog_1_method_43_code
def yX9_isOf : MethodName := ⟨RX9, "isOf", "(II)Z"⟩
abbrev cX9_noteFault : ByteArray := prog_1_method_44_code
def yX9_noteFault : MethodName := ⟨RX9, "noteFault", "()V"⟩
abbrev cX9_keptIfDone : ByteArray := prog_1_method_45_code
def yX9_keptIfDone : MethodName := ⟨RX9, "keptIfDone", "(I)I"⟩
abbrev cX9_keptIfSome : ByteArray := prog_1_method_46_code
def yX9_keptIfSome : MethodName := ⟨RX9, "keptIfSome", "(I)I"⟩
abbrev cX9_fewestSitters : ByteArray := prog_1_method_47_code
def yX9_fewestSitters : MethodName := ⟨RX9, "fewestSitters", "(III)I"⟩
abbrev cX9_setsThatSat : ByteArray := prog_1_method_48_code
def yX9_setsThatSat : MethodName := ⟨RX9, "setsThatSat", "(IIII)I"⟩
abbrev cX9_nearestToHalf : ByteArray := prog_1_method_49_code
def yX9_nearestToHalf : MethodName := ⟨RX9, "nearestToHalf", "([III)I"⟩
def RX10 : String := "WonderParcelsModel"
def TX10 : u_T := fun k => match k with
  | 0 => ("WonderParcelsModel", "thrown", "I", false)
  | 1 => ("WonderParcelsModel", "tape", "[I", true)
  | 2 => ("WonderParcelsModel", "taped", "I", false)
  | 3 => ("WonderParcelsModel", "size", "I", false)
  | 4 => ("WonderParcelsModel", "limit", "I", false)
  | 5 => ("WonderParcelsModel", "to", "I", false)
  | 6 => ("WonderParcelsModel", "from", "I", false)
  | 7 => ("WonderParcelsModel", "kind", "I", false)
  | 8 => ("WonderParcelsModel", "number", "I", false)
  | 9 => ("WonderParcelsModel", "sign", "I", false)
  | 10 => ("WonderParcelsModel", "fault", "I", false)
  | 11 => ("WonderParcelsModel", "place", "I", false)
  | 12 => ("WonderParcelsModel", "word", "J", false)
  | 13 => ("WonderParcelsModel", "told", "I", false)
  | 14 => ("WonderParcelsModel", "now", "[I", true)
  | 15 => ("WonderParcelsModel", "read", "[I", true)
  | 16 => ("WonderParcelsModel", "kept", "[I", true)
  | 17 => ("WonderParcelsModel", "snaps", "[I", true)
  | 18 => ("WonderParcelsModel", "aside", "[I", true)
  | 19 => ("WonderParcelsModel", "held", "[I", true)
  | 20 => ("WonderParcelsModel", "name", "[J", true)
  | 21 => ("WonderParcelsModel", "readName", "[J", true)
  | 22 => ("WonderParcelsModel", "keptName", "[J", true)
  | 23 => ("WonderParcelsModel", "isKept", "[Z", true)
  | 24 => ("WonderParcelsModel", "onces", "[Z", true)
  | 25 => ("WonderParcelsModel", "snapMany", "I", false)
  | 26 => ("WonderParcelsModel", "was", "[I", true)
  | 27 => ("WonderParcelsModel", "sitting", "I", false)
  | 28 => ("WonderParcelsModel", "inSets", "[I", true)
  | 29 => ("WonderParcelsModel", "surely", "I", false)
  | 30 => ("WonderParcelsModel", "asking", "I", false)
  | 31 => ("WonderParcelsModel", "placing", "[I", true)
  | 32 => ("WonderParcelsModel", "placed", "[I", true)
  | 33 => ("WonderParcelsModel", "placedMany", "I", false)
  | 34 => ("WonderParcelsModel", "hasPlaced", "Z", false)
  | 35 => ("WonderParcelsModel", "rested", "[I", true)
  | 36 => ("WonderParcelsModel", "restedMany", "I", false)
  | 37 => ("WonderParcelsModel", "text", "[I", true)
  | 38 => ("WonderParcelsModel", "texts", "I", false)
  | 39 => ("WonderParcelsModel", "seed", "I", false)
  | 40 => ("WonderParcelsModel", "line", "[I", true)
  | 41 => ("WonderParcelsModel", "written", "[I", true)
  | 42 => ("WonderParcelsModel", "lineMany", "I", false)
  | 43 => ("WonderParcelsModel", "hasWritten", "Z", false)
  | 44 => ("WonderParcelsModel", "node", "[I", true)
  | 45 => ("WonderParcelsModel", "nodes", "I", false)
  | 46 => ("WonderParcelsModel", "onesMany", "I", false)
  | 47 => ("WonderParcelsModel", "within", "I", false)
  | _ => ("WonderParcelsModel", "top", "I", false)
def tyX10 : Nat → FieldType := fun k => match k with
  | 0 => .int
  | 1 => .array .int
  | 2 => .int
  | 3 => .int
  | 4 => .int
  | 5 => .int
  | 6 => .int
  | 7 => .int
  | 8 => .int
  | 9 => .int
  | 10 => .int
  | 11 => .int
  | 12 => .long
  | 13 => .int
  | 14 => .array .int
  | 15 => .array .int
  | 16 => .array .int
  | 17 => .array .int
  | 18 => .array .int
  | 19 => .array .int
  | 20 => .array .long
  | 21 => .array .long
  | 22 => .array .long
  | 23 => .array .boolean
  | 24 => .array .boolean
  | 25 => .int
  | 26 => .array .int
  | 27 => .int
  | 28 => .array .int
  | 29 => .int
  | 30 => .int
  | 31 => .array .int
  | 32 => .array .int
  | 33 => .int
  | 34 => .boolean
  | 35 => .array .int
  | 36 => .int
  | 37 => .array .int
  | 38 => .int
  | 39 => .int
  | 40 => .array .int
  | 41 => .array .int
  | 42 => .int
  | 43 => .boolean
  | 44 => .array .int
  | 45 => .int
  | 46 => .int
  | 47 => .int
  | _ => .int
abbrev wsX100 : List Cond := u_ws RX10 TX10 49
theorem nmX10 : ∀ a, a < 49 → ∀ b, b < 49 → a ≠ b → (TX10 a).2.1 ≠ (TX10 b).2.1 := by decide +kernel
theorem tyX10_ok : ∀ k, k < 49 → parseFieldDescriptor (TX10 k).2.2.1 = some (tyX10 k) := by decide +kernel
abbrev cX10_thrown : ByteArray := prog_12_method_1_code
def yX10_thrown : MethodName := ⟨RX10, "thrown", "()I"⟩
abbrev cX10_refuse : ByteArray := prog_12_method_2_code
def yX10_refuse : MethodName := ⟨RX10, "refuse", "()I"⟩
abbrev cX10_come : ByteArray := prog_12_method_3_code
def yX10_come : MethodName := ⟨RX10, "come", "(I)V"⟩
abbrev cX10_feed : ByteArray := prog_12_method_4_code
def yX10_feed : MethodName := ⟨RX10, "feed", "(IIIII)I"⟩
abbrev cX10_end : ByteArray := prog_12_method_5_code
def yX10_end : MethodName := ⟨RX10, "end", "(I)Z"⟩
abbrev cX10_take : ByteArray := prog_12_method_6_code
def yX10_take : MethodName := ⟨RX10, "take", "()I"⟩
abbrev cX10_isIn : ByteArray := prog_12_method_7_code
def yX10_isIn : MethodName := ⟨RX10, "isIn", "(III)Z"⟩
abbrev cX10_has : ByteArray := prog_12_method_8_code
def yX10_has : MethodName := ⟨RX10, "has", "(II)Z"⟩
abbrev cX10_bits : ByteArray := prog_12_method_9_code
def yX10_bits : MethodName := ⟨RX10, "bits", "(I)I"⟩
abbrev cX10_least : ByteArray := prog_12_method_10_code
def yX10_least : MethodName := ⟨RX10, "least", "(II)I"⟩
abbrev cX10_size : ByteArray := prog_12_method_11_code
def yX10_size : MethodName := ⟨RX10, "size", "(I)I"⟩
abbrev cX10_tapeAt : ByteArray := prog_12_method_13_code
def yX10_tapeAt : MethodName := ⟨RX10, "tapeAt", "(I)I"⟩
abbrev cX10_isDigit : ByteArray := prog_12_method_14_code
def yX10_isDigit : MethodName := ⟨RX10, "isDigit", "(I)Z"⟩
abbrev cX10_isLetter : ByteArray := prog_12_method_15_code
def yX10_isLetter : MethodName := ⟨RX10, "isLetter", "(I)Z"⟩
abbrev cX10_go : ByteArray := prog_12_method_16_code
def yX10_go : MethodName := ⟨RX10, "go", "()V"⟩
abbrev cX10_spelt : ByteArray := prog_12_method_17_code
def yX10_spelt : MethodName := ⟨RX10, "spelt", "(IIIIIII)J"⟩
abbrev cX10_wordOf : ByteArray := prog_12_method_18_code
def yX10_wordOf : MethodName := ⟨RX10, "wordOf", "(I)J"⟩
abbrev cX10_isWord : ByteArray := prog_12_method_19_code
def yX10_isWord : MethodName := ⟨RX10, "isWord", "(I)Z"⟩
abbrev cX10_isSign : ByteArray := prog_12_method_20_code
def yX10_isSign : MethodName := ⟨RX10, "isSign", "(I)Z"⟩
abbrev cX10_isName : ByteArray := prog_12_method_21_code
def yX10_isName : MethodName := ⟨RX10, "isName", "()Z"⟩
abbrev cX10_bad : ByteArray := prog_12_method_22_code
def yX10_bad : MethodName := ⟨RX10, "bad", "(I)Z"⟩
abbrev cX10_readNumber : ByteArray := prog_12_method_23_code
def yX10_readNumber : MethodName := ⟨RX10, "readNumber", "(II)Z"⟩
abbrev cX10_readEnd : ByteArray := prog_12_method_24_code
def yX10_readEnd : MethodName := ⟨RX10, "readEnd", "()Z"⟩
abbrev cX10_begin : ByteArray := prog_12_method_25_code
def yX10_begin : MethodName := ⟨RX10, "begin", "(I)V"⟩
abbrev cX10_init : ByteArray := prog_12_method_26_code
def yX10_init : MethodName := ⟨RX10, "<init>", "()V"⟩
abbrev cX10_startSo : ByteArray := prog_12_method_27_code
def yX10_startSo : MethodName := ⟨RX10, "startSo", "()V"⟩
abbrev cX10_findIn : ByteArray := prog_12_method_28_code
def yX10_findIn : MethodName := ⟨RX10, "findIn", "([JIIJ)I"⟩
abbrev cX10_isTaken : ByteArray := prog_12_method_29_code
def yX10_isTaken : MethodName := ⟨RX10, "isTaken", "()Z"⟩
abbrev cX10_readNew : ByteArray := prog_12_method_30_code
def yX10_readNew : MethodName := ⟨RX10, "readNew", "(I)Z"⟩
abbrev cX10_isOne : ByteArray := prog_12_method_31_code
def yX10_isOne : MethodName := ⟨RX10, "isOne", "(II)Z"⟩
abbrev cX10_readOne : ByteArray := prog_12_method_32_code
def yX10_readOne : MethodName := ⟨RX10, "readOne", "(II)Z"⟩
abbrev cX10_readIdea : ByteArray := prog_12_method_33_code
def yX10_readIdea : MethodName := ⟨RX10, "readIdea", "()Z"⟩
abbrev cX10_readFirst : ByteArray := prog_12_method_34_code
def yX10_readFirst : MethodName := ⟨RX10, "readFirst", "(II)Z"⟩
abbrev cX10_put : ByteArray := prog_12_method_35_code
def yX10_put : MethodName := ⟨RX10, "put", "(IZ)Z"⟩
abbrev cX10_readNewIdea : ByteArray := prog_12_method_36_code
def yX10_readNewIdea : MethodName := ⟨RX10, "readNewIdea", "()Z"⟩
abbrev cX10_readRoom : ByteArray := prog_12_method_37_code
def yX10_readRoom : MethodName := ⟨RX10, "readRoom", "()Z"⟩
abbrev cX10_readParcel : ByteArray := prog_12_method_38_code
def yX10_readParcel : MethodName := ⟨RX10, "readParcel", "()Z"⟩
abbrev cX10_readPerson : ByteArray := prog_12_method_39_code
def yX10_readPerson : MethodName := ⟨RX10, "readPerson", "()Z"⟩
abbrev cX10_readSits : ByteArray := prog_12_method_40_code
def yX10_readSits : MethodName := ⟨RX10, "readSits", "()Z"⟩
abbrev cX10_readHas : ByteArray := prog_12_method_41_code
def yX10_readHas : MethodName := ⟨RX10, "readHas", "()Z"⟩
abbrev cX10_readQuarrel : ByteArray := prog_12_method_42_code
def yX10_readQuarrel : MethodName := ⟨RX10, "readQuarrel", "()Z"⟩
abbrev cX10_readOnce : ByteArray := prog_12_method_43_code
def yX10_readOnce : MethodName := ⟨RX10, "readOnce", "(IIII)Z"⟩
abbrev cX10_readLine : ByteArray := prog_12_method_44_code
def yX10_readLine : MethodName := ⟨RX10, "readLine", "()Z"⟩
abbrev cX10_post : ByteArray := prog_12_method_45_code
def yX10_post : MethodName := ⟨RX10, "post", "()I"⟩
abbrev cX10_fault : ByteArray := prog_12_method_46_code
def yX10_fault : MethodName := ⟨RX10, "fault", "()I"⟩
abbrev cX10_isIdea : ByteArray := prog_12_method_47_code
def yX10_isIdea : MethodName := ⟨RX10, "isIdea", "(I)Z"⟩
abbrev cX10_isRoom : ByteArray := prog_12_method_48_code
def yX10_isRoom : MethodName := ⟨RX10, "isRoom", "(I)Z"⟩
abbrev cX10_isParcel : ByteArray := prog_12_method_49_code
def yX10_isParcel : MethodName := ⟨RX10, "isParcel", "(I)Z"⟩
abbrev cX10_isPerson : ByteArray := prog_12_method_50_code
def yX10_isPerson : MethodName := ⟨RX10, "isPerson", "(I)Z"⟩
abbrev cX10_isOpen : ByteArray := prog_12_method_51_code
def yX10_isOpen : MethodName := ⟨RX10, "isOpen", "(I)Z"⟩
abbrev cX10_muchOf : ByteArray := prog_12_method_52_code
def yX10_muchOf : MethodName := ⟨RX10, "muchOf", "(II)I"⟩
abbrev cX10_whatIs : ByteArray := prog_12_method_53_code
def yX10_whatIs : MethodName := ⟨RX10, "whatIs", "(I)I"⟩
abbrev cX10_sizeOf : ByteArray := prog_12_method_54_code
def yX10_sizeOf : MethodName := ⟨RX10, "sizeOf", "(I)I"⟩
abbrev cX10_sittersOf : ByteArray := prog_12_method_55_code
def yX10_sittersOf : MethodName := ⟨RX10, "sittersOf", "(I)I"⟩
abbrev cX10_nothings : ByteArray := prog_12_method_56_code
def yX10_nothings : MethodName := ⟨RX10, "nothings", "()I"⟩
abbrev cX10_sum : ByteArray := prog_12_method_57_code
def yX10_sum : MethodName := ⟨RX10, "sum", "(II)I"⟩
abbrev cX10_much : ByteArray := prog_12_method_58_code
def yX10_much : MethodName := ⟨RX10, "much", "(II)I"⟩
abbrev cX10_parcel : ByteArray := prog_12_method_59_code
def yX10_parcel : MethodName := ⟨RX10, "parcel", "(II)I"⟩
abbrev cX10_person : ByteArray := prog_12_method_60_code
def yX10_person : MethodName := ⟨RX10, "person", "(II)I"⟩
abbrev cX10_need : ByteArray := prog_12_method_61_code
def yX10_need : MethodName := ⟨RX10, "need", "(I)I"⟩
abbrev cX10_quarrels : ByteArray := prog_12_method_62_code
def yX10_quarrels : MethodName := ⟨RX10, "quarrels", "(I)I"⟩
abbrev cX10_now : ByteArray := prog_12_method_63_code
def yX10_now : MethodName := ⟨RX10, "now", "(I)I"⟩
abbrev cX10_snap : ByteArray := prog_12_method_64_code
def yX10_snap : MethodName := ⟨RX10, "snap", "()V"⟩
abbrev cX10_why : ByteArray := prog_12_method_65_code
def yX10_why : MethodName := ⟨RX10, "why", "(III)I"⟩
abbrev cX10_adds : ByteArray := prog_12_method_66_code
def yX10_adds : MethodName := ⟨RX10, "adds", "(III)V"⟩
abbrev cX10_less : ByteArray := prog_12_method_67_code
def yX10_less : MethodName := ⟨RX10, "less", "(II)V"⟩
abbrev cX10_doGuess : ByteArray := prog_12_method_68_code
def yX10_doGuess : MethodName := ⟨RX10, "doGuess", "(II)V"⟩
abbrev cX10_live : ByteArray := prog_12_method_69_code
def yX10_live : MethodName := ⟨RX10, "live", "(III)V"⟩
abbrev cX10_act : ByteArray := prog_12_method_70_code
def yX10_act : MethodName := ⟨RX10, "act", "(III)I"⟩
abbrev cX10_sit : ByteArray := prog_12_method_71_code
def yX10_sit : MethodName := ⟨RX10, "sit", "(II)I"⟩
abbrev cX10_stand : ByteArray := prog_12_method_72_code
def yX10_stand : MethodName := ⟨RX10, "stand", "(I)I"⟩
abbrev cX10_wish : ByteArray := prog_12_method_73_code
def yX10_wish : MethodName := ⟨RX10, "wish", "(II)I"⟩
abbrev cX10_guess : ByteArray := prog_12_method_74_code
def yX10_guess : MethodName := ⟨RX10, "guess", "(II)I"⟩
abbrev cX10_open : ByteArray := prog_12_method_75_code
def yX10_open : MethodName := ⟨RX10, "open", "(I)I"⟩
abbrev cX10_carry : ByteArray := prog_12_method_76_code
def yX10_carry : MethodName := ⟨RX10, "carry", "(II)I"⟩
abbrev cX10_undo : ByteArray := prog_12_method_77_code
def yX10_undo : MethodName := ⟨RX10, "undo", "()I"⟩
abbrev cX10_areUnlike : ByteArray := prog_12_method_78_code
def yX10_areUnlike : MethodName := ⟨RX10, "areUnlike", "(I)Z"⟩
abbrev cX10_wonders : ByteArray := prog_12_method_79_code
def yX10_wonders : MethodName := ⟨RX10, "wonders", "(I)V"⟩
abbrev cX10_oneDay : ByteArray := prog_12_method_80_code
def yX10_oneDay : MethodName := ⟨RX10, "oneDay", "()V"⟩
abbrev cX10_passDays : ByteArray := prog_12_method_81_code
def yX10_passDays : MethodName := ⟨RX10, "passDays", "(I)I"⟩
abbrev cX10_days : ByteArray := prog_12_method_82_code
def yX10_days : MethodName := ⟨RX10, "days", "(I)I"⟩
abbrev cX10_layAside : ByteArray := prog_12_method_83_code
def yX10_layAside : MethodName := ⟨RX10, "layAside", "()V"⟩
abbrev cX10_takeBack : ByteArray := prog_12_method_84_code
def yX10_takeBack : MethodName := ⟨RX10, "takeBack", "()V"⟩
abbrev cX10_hold : ByteArray := prog_12_method_85_code
def yX10_hold : MethodName := ⟨RX10, "hold", "()V"⟩
abbrev cX10_back : ByteArray := prog_12_method_86_code
def yX10_back : MethodName := ⟨RX10, "back", "()V"⟩
abbrev cX10_when : ByteArray := prog_12_method_87_code
def yX10_when : MethodName := ⟨RX10, "when", "(II)I"⟩
abbrev cX10_sitters : ByteArray := prog_12_method_88_code
def yX10_sitters : MethodName := ⟨RX10, "sitters", "(III)I"⟩
abbrev cX10_sitting : ByteArray := prog_12_method_89_code
def yX10_sitting : MethodName := ⟨RX10, "sitting", "()I"⟩
abbrev cX10_satSo : ByteArray := prog_12_method_90_code
def yX10_satSo : MethodName := ⟨RX10, "satSo", "(IIIII)Z"⟩
abbrev cX10_sat : ByteArray := prog_12_method_91_code
def yX10_sat : MethodName := ⟨RX10, "sat", "()I"⟩
abbrev cX10_surely : ByteArray := prog_12_method_92_code
def yX10_surely : MethodName := ⟨RX10, "surely", "()I"⟩
abbrev cX10_ask : ByteArray := prog_12_method_93_code
def yX10_ask : MethodName := ⟨RX10, "ask", "()I"⟩
abbrev cX10_let : ByteArray := prog_12_method_94_code
def yX10_let : MethodName := ⟨RX10, "let", "(I)I"⟩
abbrev cX10_doQuarrel : ByteArray := prog_12_method_95_code
def yX10_doQuarrel : MethodName := ⟨RX10, "doQuarrel", "(II)Z"⟩
abbrev cX10_placeFrom : ByteArray := prog_12_method_96_code
def yX10_placeFrom : MethodName := ⟨RX10, "placeFrom", "(II)Z"⟩
abbrev cX10_rooms : ByteArray := prog_12_method_97_code
def yX10_rooms : MethodName := ⟨RX10, "rooms", "()I"⟩
abbrev cX10_roomOf : ByteArray := prog_12_method_98_code
def yX10_roomOf : MethodName := ⟨RX10, "roomOf", "(I)I"⟩
abbrev cX10_worthOf : ByteArray := prog_12_method_99_code
def yX10_worthOf : MethodName := ⟨RX10, "worthOf", "(II)I"⟩
abbrev cX10_resits : ByteArray := prog_12_method_100_code
def yX10_resits : MethodName := ⟨RX10, "resits", "(I)Z"⟩
abbrev cX10_rest : ByteArray := prog_12_method_101_code
def yX10_rest : MethodName := ⟨RX10, "rest", "()I"⟩
abbrev cX10_rested : ByteArray := prog_12_method_102_code
def yX10_rested : MethodName := ⟨RX10, "rested", "(I)I"⟩
abbrev cX10_greatest : ByteArray := prog_12_method_103_code
def yX10_greatest : MethodName := ⟨RX10, "greatest", "()I"⟩
abbrev cX10_write : ByteArray := prog_12_method_104_code
def yX10_write : MethodName := ⟨RX10, "write", "(I)V"⟩
abbrev cX10_writeWord : ByteArray := prog_12_method_105_code
def yX10_writeWord : MethodName := ⟨RX10, "writeWord", "(J)V"⟩
abbrev cX10_writeNext : ByteArray := prog_12_method_106_code
def yX10_writeNext : MethodName := ⟨RX10, "writeNext", "(J)V"⟩
abbrev cX10_tag : ByteArray := prog_12_method_107_code
def yX10_tag : MethodName := ⟨RX10, "tag", "(I)I"⟩
abbrev cX10_byteAt : ByteArray := prog_12_method_108_code
def yX10_byteAt : MethodName := ⟨RX10, "byteAt", "(I)I"⟩
abbrev cX10_draw : ByteArray := prog_12_method_109_code
def yX10_draw : MethodName := ⟨RX10, "draw", "(I)I"⟩
abbrev cX10_drawsFor : ByteArray := prog_12_method_110_code
def yX10_drawsFor : MethodName := ⟨RX10, "drawsFor", "(I)V"⟩
abbrev cX10_drawDays : ByteArray := prog_12_method_111_code
def yX10_drawDays : MethodName := ⟨RX10, "drawDays", "(II)I"⟩
abbrev cX10_drawn : ByteArray := prog_12_method_112_code
def yX10_drawn : MethodName := ⟨RX10, "drawn", "(II)I"⟩
abbrev cX10_odds : ByteArray := prog_12_method_113_code
def yX10_odds : MethodName := ⟨RX10, "odds", "(IIII)I"⟩
abbrev cX10_keep : ByteArray := prog_12_method_114_code
def yX10_keep : MethodName := ⟨RX10, "keep", "(IZ)Z"⟩
abbrev cX10_readNamed : ByteArray := prog_12_method_115_code
def yX10_readNamed : MethodName := ⟨RX10, "readNamed", "(II)Z"⟩
abbrev cX10_readIdeaName : ByteArray := prog_12_method_116_code
def yX10_readIdeaName : MethodName := ⟨RX10, "readIdeaName", "()Z"⟩
abbrev cX10_readParcelName : ByteArray := prog_12_method_117_code
def yX10_readParcelName : MethodName := ⟨RX10, "readParcelName", "()Z"⟩
abbrev cX10_readDoes : ByteArray := prog_12_method_118_code
def yX10_readDoes : MethodName := ⟨RX10, "readDoes", "(I)Z"⟩
abbrev cX10_readBookLine : ByteArray := prog_12_method_119_code
def yX10_readBookLine : MethodName := ⟨RX10, "readBookLine", "()Z"⟩
abbrev cX10_goBy : ByteArray := prog_12_method_120_code
def yX10_goBy : MethodName := ⟨RX10, "goBy", "(I)I"⟩
abbrev cX10_book : ByteArray := prog_12_method_121_code
def yX10_book : MethodName := ⟨RX10, "book", "(I)I"⟩
abbrev cX10_stay : ByteArray := prog_12_method_122_code
def yX10_stay : MethodName := ⟨RX10, "stay", "(Z)V"⟩
abbrev cX10_told : ByteArray := prog_12_method_123_code
def yX10_told : MethodName := ⟨RX10, "told", "(I)I"⟩
abbrev cX10_saysOne : ByteArray := prog_12_method_124_code
def yX10_saysOne : MethodName := ⟨RX10, "saysOne", "(IIII)I"⟩
abbrev cX10_readOr : ByteArray := prog_12_method_125_code
def yX10_readOr : MethodName := ⟨RX10, "readOr", "()Z"⟩
abbrev cX10_readAnd : ByteArray := prog_12_method_126_code
def yX10_readAnd : MethodName := ⟨RX10, "readAnd", "()Z"⟩
abbrev cX10_readSaid : ByteArray := prog_12_method_127_code
def yX10_readSaid : MethodName := ⟨RX10, "readSaid", "()Z"⟩
abbrev cX10_readNot : ByteArray := prog_12_method_128_code
def yX10_readNot : MethodName := ⟨RX10, "readNot", "()Z"⟩
abbrev cX10_readBracket : ByteArray := prog_12_method_129_code
def yX10_readBracket : MethodName := ⟨RX10, "readBracket", "()Z"⟩
abbrev cX10_readOf : ByteArray := prog_12_method_130_code
def yX10_readOf : MethodName := ⟨RX10, "readOf", "(I)Z"⟩
abbrev cX10_readCompare : ByteArray := prog_12_method_131_code
def yX10_readCompare : MethodName := ⟨RX10, "readCompare", "(I)Z"⟩
abbrev cX10_sentence : ByteArray := prog_12_method_132_code
def yX10_sentence : MethodName := ⟨RX10, "sentence", "()I"⟩
abbrev cX10_holds : ByteArray := prog_12_method_133_code
def yX10_holds : MethodName := ⟨RX10, "holds", "(II)Z"⟩
abbrev cX10_said : ByteArray := prog_12_method_134_code
def yX10_said : MethodName := ⟨RX10, "said", "(I)I"⟩
abbrev cX10_image : ByteArray := prog_12_method_135_code
def yX10_image : MethodName := ⟨RX10, "image", "(I)Z"⟩
abbrev cX10_restore : ByteArray := prog_12_method_136_code
def yX10_restore : MethodName := ⟨RX10, "restore", "(I)Z"⟩
abbrev cX10_count : ByteArray := prog_12_method_137_code
def yX10_count : MethodName := ⟨RX10, "count", "(I)I"⟩
def RJx145de : String := "java/io/Serializable"
def TJx145de : u_T := fun k => match k with
  | _ => ("", "", "", false)
def tyJx145de : Nat → FieldType := fun k => match k with
  | _ => .int
abbrev wsJx145de0 : List Cond := u_ws RJx145de TJx145de 0
theorem nmJx145de : ∀ a, a < 0 → ∀ b, b < 0 → a ≠ b → (TJx145de a).2.1 ≠ (TJx145de b).2.1 := by decide +kernel
theorem tyJx145de_ok : ∀ k, k < 0 → parseFieldDescriptor (TJx145de k).2.2.1 = some (tyJx145de k) := by decide +kernel
def RJx9f9b0 : String := "java/lang/CharSequence"
def TJx9f9b0 : u_T := fun k => match k with
  | _ => ("", "", "", false)
def tyJx9f9b0 : Nat → FieldType := fun k => match k with
  | _ => .int
abbrev wsJx9f9b00 : List Cond := u_ws RJx9f9b0 TJx9f9b0 0
theorem nmJx9f9b0 : ∀ a, a < 0 → ∀ b, b < 0 → a ≠ b → (TJx9f9b0 a).2.1 ≠ (TJx9f9b0 b).2.1 := by decide +kernel
theorem tyJx9f9b0_ok : ∀ k, k < 0 → parseFieldDescriptor (TJx9f9b0 k).2.2.1 = some (tyJx9f9b0 k) := by decide +kernel
def RJxb160c : String := "java/lang/Comparable"
def TJxb160c : u_T := fun k => match k with
  | _ => ("", "", "", false)
def tyJxb160c : Nat → FieldType := fun k => match k with
  | _ => .int
abbrev wsJxb160c0 : List Cond := u_ws RJxb160c TJxb160c 0
theorem nmJxb160c : ∀ a, a < 0 → ∀ b, b < 0 → a ≠ b → (TJxb160c a).2.1 ≠ (TJxb160c b).2.1 := by decide +kernel
theorem tyJxb160c_ok : ∀ k, k < 0 → parseFieldDescriptor (TJxb160c k).2.2.1 = some (tyJxb160c k) := by decide +kernel
def RJ6 : String := "java/lang/Integer"
def TJ6 : u_T := fun k => match k with
  | _ => ("", "", "", false)
def tyJ6 : Nat → FieldType := fun k => match k with
  | _ => .int
abbrev wsJ60 : List Cond := u_ws RJ6 TJ6 0
theorem nmJ6 : ∀ a, a < 0 → ∀ b, b < 0 → a ≠ b → (TJ6 a).2.1 ≠ (TJ6 b).2.1 := by decide +kernel
theorem tyJ6_ok : ∀ k, k < 0 → parseFieldDescriptor (TJ6 k).2.2.1 = some (tyJ6 k) := by decide +kernel
abbrev cJ6_bitCount_0f7a4 : ByteArray := prog_17_method_49_code
def yJ6_bitCount_0f7a4 : MethodName := ⟨RJ6, "bitCount", "(I)I"⟩
def RJ9 : String := "java/lang/Math"
def TJ9 : u_T := fun k => match k with
  | _ => ("", "", "", false)
def tyJ9 : Nat → FieldType := fun k => match k with
  | _ => .int
abbrev wsJ90 : List Cond := u_ws RJ9 TJ9 0
theorem nmJ9 : ∀ a, a < 0 → ∀ b, b < 0 → a ≠ b → (TJ9 a).2.1 ≠ (TJ9 b).2.1 := by decide +kernel
theorem tyJ9_ok : ∀ k, k < 0 → parseFieldDescriptor (TJ9 k).2.2.1 = some (tyJ9 k) := by decide +kernel
abbrev cJ9_abs_0f7a4 : ByteArray := prog_18_method_59_code
def yJ9_abs_0f7a4 : MethodName := ⟨RJ9, "abs", "(I)I"⟩
abbrev cJ9_max_7cf53 : ByteArray := prog_18_method_65_code
def yJ9_max_7cf53 : MethodName := ⟨RJ9, "max", "(II)I"⟩
abbrev cJ9_min_7cf53 : ByteArray := prog_18_method_69_code
def yJ9_min_7cf53 : MethodName := ⟨RJ9, "min", "(II)I"⟩
def RJ0 : String := "java/lang/String"
def TJ0 : u_T := fun k => match k with
  | _ => ("", "", "", false)
def tyJ0 : Nat → FieldType := fun k => match k with
  | _ => .int
abbrev wsJ00 : List Cond := u_ws RJ0 TJ0 0
theorem nmJ0 : ∀ a, a < 0 → ∀ b, b < 0 → a ≠ b → (TJ0 a).2.1 ≠ (TJ0 b).2.1 := by decide +kernel
theorem tyJ0_ok : ∀ k, k < 0 → parseFieldDescriptor (TJ0 k).2.2.1 = some (tyJ0 k) := by decide +kernel
abbrev cJ0_length_8abf5 : ByteArray := prog_20_method_54_code
def yJ0_length_8abf5 : MethodName := ⟨RJ0, "length", "()I"⟩
abbrev cJ0_charAt_5068e : ByteArray := prog_20_method_56_code
def yJ0_charAt_5068e : MethodName := ⟨RJ0, "charAt", "(I)C"⟩
abbrev cJ0_coder_7d493 : ByteArray := prog_20_method_152_code
def yJ0_coder_7d493 : MethodName := ⟨RJ0, "coder", "()B"⟩
abbrev cJ0_isLatin1_aae02 : ByteArray := prog_20_method_154_code
def yJ0_isLatin1_aae02 : MethodName := ⟨RJ0, "isLatin1", "()Z"⟩
abbrev cJ0_checkIndex_df160 : ByteArray := prog_20_method_155_code
def yJ0_checkIndex_df160 : MethodName := ⟨RJ0, "checkIndex", "(II)V"⟩
def RJ1 : String := "java/lang/StringLatin1"
def TJ1 : u_T := fun k => match k with
  | _ => ("", "", "", false)
def tyJ1 : Nat → FieldType := fun k => match k with
  | _ => .int
abbrev wsJ10 : List Cond := u_ws RJ1 TJ1 0
theorem nmJ1 : ∀ a, a < 0 → ∀ b, b < 0 → a ≠ b → (TJ1 a).2.1 ≠ (TJ1 b).2.1 := by decide +kernel
theorem tyJ1_ok : ∀ k, k < 0 → parseFieldDescriptor (TJ1 k).2.2.1 = some (tyJ1 k) := by decide +kernel
abbrev cJ1_charAt_3b067 : ByteArray := prog_21_method_2_code
def yJ1_charAt_3b067 : MethodName := ⟨RJ1, "charAt", "([BI)C"⟩
def RJ2 : String := "java/lang/StringUTF16"
def TJ2 : u_T := fun k => match k with
  | _ => ("", "", "", false)
def tyJ2 : Nat → FieldType := fun k => match k with
  | _ => .int
abbrev wsJ20 : List Cond := u_ws RJ2 TJ2 0
theorem nmJ2 : ∀ a, a < 0 → ∀ b, b < 0 → a ≠ b → (TJ2 a).2.1 ≠ (TJ2 b).2.1 := by decide +kernel
theorem tyJ2_ok : ∀ k, k < 0 → parseFieldDescriptor (TJ2 k).2.2.1 = some (tyJ2 k) := by decide +kernel
abbrev cJ2_getChar_3b067 : ByteArray := prog_22_method_5_code
def yJ2_getChar_3b067 : MethodName := ⟨RJ2, "getChar", "([BI)C"⟩
abbrev cJ2_length_9d52b : ByteArray := prog_22_method_6_code
def yJ2_length_9d52b : MethodName := ⟨RJ2, "length", "([B)I"⟩
abbrev cJ2_charAt_3b067 : ByteArray := prog_22_method_83_code
def yJ2_charAt_3b067 : MethodName := ⟨RJ2, "charAt", "([BI)C"⟩
abbrev cJ2_checkIndex_2214a : ByteArray := prog_22_method_91_code
def yJ2_checkIndex_2214a : MethodName := ⟨RJ2, "checkIndex", "(I[B)V"⟩
def RJ10 : String := "java/lang/System"
def TJ10 : u_T := fun k => match k with
  | _ => ("", "", "", false)
def tyJ10 : Nat → FieldType := fun k => match k with
  | _ => .int
abbrev wsJ100 : List Cond := u_ws RJ10 TJ10 0
theorem nmJ10 : ∀ a, a < 0 → ∀ b, b < 0 → a ≠ b → (TJ10 a).2.1 ≠ (TJ10 b).2.1 := by decide +kernel
theorem tyJ10_ok : ∀ k, k < 0 → parseFieldDescriptor (TJ10 k).2.2.1 = some (tyJ10 k) := by decide +kernel
def RJxfd54e : String := "java/lang/constant/Constable"
def TJxfd54e : u_T := fun k => match k with
  | _ => ("", "", "", false)
def tyJxfd54e : Nat → FieldType := fun k => match k with
  | _ => .int
abbrev wsJxfd54e0 : List Cond := u_ws RJxfd54e TJxfd54e 0
theorem nmJxfd54e : ∀ a, a < 0 → ∀ b, b < 0 → a ≠ b → (TJxfd54e a).2.1 ≠ (TJxfd54e b).2.1 := by decide +kernel
theorem tyJxfd54e_ok : ∀ k, k < 0 → parseFieldDescriptor (TJxfd54e k).2.2.1 = some (tyJxfd54e k) := by decide +kernel
def RJx3cf43 : String := "java/lang/constant/ConstantDesc"
def TJx3cf43 : u_T := fun k => match k with
  | _ => ("", "", "", false)
def tyJx3cf43 : Nat → FieldType := fun k => match k with
  | _ => .int
abbrev wsJx3cf430 : List Cond := u_ws RJx3cf43 TJx3cf43 0
theorem nmJx3cf43 : ∀ a, a < 0 → ∀ b, b < 0 → a ≠ b → (TJx3cf43 a).2.1 ≠ (TJx3cf43 b).2.1 := by decide +kernel
theorem tyJx3cf43_ok : ∀ k, k < 0 → parseFieldDescriptor (TJx3cf43 k).2.2.1 = some (tyJx3cf43 k) := by decide +kernel
def RJ7 : String := "java/util/Arrays"
def TJ7 : u_T := fun k => match k with
  | _ => ("", "", "", false)
def tyJ7 : Nat → FieldType := fun k => match k with
  | _ => .int
abbrev wsJ70 : List Cond := u_ws RJ7 TJ7 0
theorem nmJ7 : ∀ a, a < 0 → ∀ b, b < 0 → a ≠ b → (TJ7 a).2.1 ≠ (TJ7 b).2.1 := by decide +kernel
theorem tyJ7_ok : ∀ k, k < 0 → parseFieldDescriptor (TJ7 k).2.2.1 = some (tyJ7 k) := by decide +kernel
abbrev cJ7_fill_53178 : ByteArray := prog_27_method_103_code
def yJ7_fill_53178 : MethodName := ⟨RJ7, "fill", "([II)V"⟩
def RJ3 : String := "jdk/internal/util/Preconditions"
def TJ3 : u_T := fun k => match k with
  | _ => ("", "", "", false)
def tyJ3 : Nat → FieldType := fun k => match k with
  | _ => .int
abbrev wsJ30 : List Cond := u_ws RJ3 TJ3 0
theorem nmJ3 : ∀ a, a < 0 → ∀ b, b < 0 → a ≠ b → (TJ3 a).2.1 ≠ (TJ3 b).2.1 := by decide +kernel
theorem tyJ3_ok : ∀ k, k < 0 → parseFieldDescriptor (TJ3 k).2.2.1 = some (tyJ3 k) := by decide +kernel
abbrev cJ3_checkIndex_8e157 : ByteArray := prog_29_method_11_code
def yJ3_checkIndex_8e157 : MethodName := ⟨RJ3, "checkIndex", "(IILjava/util/function/BiFunction;)I"⟩
def RL : String := "WonderParcelsLaw"
abbrev cL_parcel : ByteArray := method_3_code
def yL_parcel : MethodName := ⟨RL, "parcel", "(LWonderParcels;II[J)I"⟩
abbrev cL_person : ByteArray := method_4_code
def yL_person : MethodName := ⟨RL, "person", "(LWonderParcels;II[J)I"⟩
abbrev cL_law : ByteArray := code
def yL_law : MethodName := ⟨RL, "law", "([I)Z"⟩
end
section
/-! the words that stay good, as one list; every contract of ours has its own code and these -/
def gT : List Cond := lw_tbl.filter goodWord
theorem gT_of {w : Cond} (h : w ∈ lw_tbl) (hg : goodWord w = true) : w ∈ gT := List.mem_filter.mpr ⟨h, hg⟩
theorem gT_t {w : Cond} (h : w ∈ tables_1) (hg : goodWord w = true) : w ∈ gT := gT_of (List.mem_append_right _ h) hg
theorem gT_s {w : Cond} (h : w ∈ k2_sels lw_privs) (hg : goodWord w = true) : w ∈ gT := gT_of (List.mem_append_left _ h) hg
theorem gT_good {w : Cond} (h : w ∈ gT) : (w.onTables && w.keeps) = true ∨ ∃ ty, w = .arrayClass ty := good_of_word (List.mem_filter.mp h).2
theorem gC {y : MethodName} {b : ByteArray} {n : Nat} {r : Option FieldType} (h : Cond.code y b n r ∈ gT) : GoodIn gT (Cond.code y b n r :: gT) := fun w hw => (List.mem_cons.mp hw).elim (fun e => by rw [e]; exact ⟨h, gT_good h⟩) (fun h2 => ⟨h2, gT_good h2⟩)
theorem gV {own : String} {idx : Nat} {C : String} {y : MethodName} {b : ByteArray} {n : Nat} {r : Option FieldType} (h1 : Cond.methodLink own idx y ∈ gT) (h2 : Cond.instanceMethod y ∈ gT) (h3 : Cond.selects C y y ∈ gT) (h4 : Cond.initialized C ∈ gT) (h5 : Cond.code y b n r ∈ gT) : GoodIn gT (wsV own idx C y (Cond.code y b n r :: gT)) := by
  intro w hw
  rcases List.mem_append.mp hw with h | h
  · simp only [List.mem_cons, List.not_mem_nil, or_false] at h
    rcases h with e | e | e | e
    · rw [e]; exact ⟨h1, gT_good h1⟩
    · rw [e]; exact ⟨h2, gT_good h2⟩
    · rw [e]; exact ⟨h3, gT_good h3⟩
    · rw [e]; exact ⟨h4, gT_good h4⟩
  · exact gC h5 w h
theorem gS {own : String} {idx : Nat} {y : MethodName} {b : ByteArray} {n : Nat} {r : Option FieldType} (h1 : Cond.methodLink own idx y ∈ gT) (h2 : Cond.static y ∈ gT) (h4 : Cond.initialized y.cls ∈ gT) (h5 : Cond.code y b n r ∈ gT) : GoodIn gT (va_wsS own idx y (Cond.code y b n r :: gT)) := by
  intro w hw
  rcases List.mem_append.mp hw with h | h
  · simp only [List.mem_cons, List.not_mem_nil, or_false] at h
    rcases h with e | e | e
    · rw [e]; exact ⟨h1, gT_good h1⟩
    · rw [e]; exact ⟨h2, gT_good h2⟩
    · rw [e]; exact ⟨h4, gT_good h4⟩
  · exact gC h5 w h
abbrev classes : List vw_C := [(RX0, TX0, 5), (RX1, TX1, 3), (RX2, TX2, 3), (RX3, TX3, 9), (RX4, TX4, 2), (RX5, TX5, 5), (RX6, TX6, 2), (RX7, TX7, 12), (RX8, TX8, 13), (RX9, TX9, 15), (RX10, TX10, 49)]
abbrev TY (cy : Nat → ClassId) : List (ClassId × FieldType) := [(cy 0, .byte), (cy 1, .int), (cy 2, .long), (cy 3, .boolean), (cy 4, .object "WonderParcels$World"), (cy 5, .object "WonderParcels$Image")]
def isNest : Cond → Bool
  | .fieldLinkNest .. => true
  | .methodLinkNest .. => true
  | _ => false
def nW : List Cond := tables_1.filter isNest
theorem nW_t {w : Cond} (h : w ∈ tables_1) (hg : isNest w = true) : w ∈ nW := List.mem_filter.mpr ⟨h, hg⟩
theorem nW_warm {s U : State} (hW : s.WarmedH U.vm) {w : Cond} (hw : isNest w = true) (h : va_Nw w s) : va_Nw w U := by
  cases w <;> first | exact va_Nw.warmF hW h | exact va_Nw.warmM hW h | exact absurd hw (by simp [isNest])
theorem nW_same {u U : State} (hv : U.vm = u.vm) {w : Cond} (hw : isNest w = true) (h : va_Nw w u) : va_Nw w U := by
  cases w <;> first | exact va_Nw.same rfl hv.symm h | exact absurd hw (by simp [isNest])
/-- the statics and texts that are read -/
def SD (z : Nat → Nat) (A : Nat → Prop) (U : State) : Prop :=
  (∀ w ∈ nW, va_Nw w U) ∧ va_AO "WonderParcels$World" U ∧ va_AO "WonderParcels$Image" U ∧
  va_Z "WonderParcels$Post" "MOST_OF_SORT" "[I" (.ref (z 0)) A U U.heap ∧ va_T .int (z 0) 4 (fun j => .int (([6, 4, 6, 8] : List Int32).getD j 0)) A U U.heap ∧
  va_Z "java/lang/String" "COMPACT_STRINGS" "Z" (.int 1) A U U.heap ∧ va_Zq "jdk/internal/util/Preconditions" "SIOOBE_FORMATTER" "Ljava/util/function/BiFunction;" A U U.heap ∧
  (va_O "java/lang/String" (z 1) A U U.heap ∧ va_OF "java/lang/String" "coder" "B" (.int 0) (z 1) A U U.heap ∧ va_OF "java/lang/String" "value" "[B" (.ref (z 2)) (z 1) A U U.heap ∧ ∃ f : Nat → Int32, va_T .byte (z 2) 160 (fun j => .int (f j)) A U U.heap) ∧
  vk_R "WonderParcels$Tape" 23 "idea room parcel person sits has quarrel leak guess joins stands wishes guesses open carry day or and not opened nothing watched is in size bulge turned number " (z 1) U
theorem SD.pass {z : Nat → Nat} {A B : Nat → Prop} {s U : State} (h : SD z A s) (hq : ∀ a : Nat, a < s.heap.size → ¬ A a → U.heap[a]? = s.heap[a]?) (hW : s.WarmedH U.vm) (hAB : ∀ q, B q → A q) : SD z B U := by
  obtain ⟨hn, ha1, ha2, h1, h2, h3, h4, ⟨h5, h6, h7, f, h8⟩, h9⟩ := h
  have hv := hW.alike
  exact ⟨fun w hw => nW_warm hW (List.mem_filter.mp hw).2 (hn w hw), ha1.moved hv, ha2.moved hv, ((h1.kept hq).narrow hAB).moved hv, ((h2.kept hq).narrow hAB).moved hv, ((h3.kept hq).narrow hAB).moved hv, va_Zq.moved hv ((h4.kept hq).narrow hAB), ⟨va_O.moved hv ((h5.kept hq).narrow hAB), va_OF.moved hv ((h6.kept hq).narrow hAB), va_OF.moved hv ((h7.kept hq).narrow hAB), f, va_T.moved hv ((h8.kept hq).narrow hAB)⟩, h9.warm hW⟩
theorem SD.same {z : Nat → Nat} {A : Nat → Prop} {u U : State} (hv : U.vm = u.vm) (hh : U.heap = u.heap) (h : SD z A u) : SD z A U := by
  obtain ⟨hn, ha1, ha2, h1, h2, h3, h4, ⟨h5, h6, h7, f, h8⟩, h9⟩ := h
  have ha : u.vm.Alike U.vm := by rw [hv]; exact Vm.Alike.refl _
  unfold SD
  rw [hh]
  exact ⟨fun w hw => nW_same hv (List.mem_filter.mp hw).2 (hn w hw), ha1.moved ha, ha2.moved ha, h1.moved ha, h2.moved ha, h3.moved ha, va_Zq.moved ha h4, ⟨va_O.moved ha h5, va_OF.moved ha h6, va_OF.moved ha h7, f, va_T.moved ha h8⟩, h9.same hv⟩
theorem SD.nest {z : Nat → Nat} {A : Nat → Prop} {U : State} (h : SD z A U) {args : Array Value} {w : Cond} (hw : w ∈ nW) : w.before args U = true := by
  have h1 := h.1 w hw
  have h2 := (List.mem_filter.mp hw).2
  cases w <;> first | exact va_Nw.use rfl h1 | exact absurd h2 (by simp [isNest])
/-- what a contract of ours begins with -/
def PRE (D : va_G) (cy : Nat → ClassId) (z : Nat → Nat) (ws : va_W) (sz : Nat) (U : State) : Prop :=
  U.heap.size = sz ∧ va_P D classes ws U.heap ∧ va_K D classes (TY cy) U ∧ va_D (fun _ => True) ws ∧ SD z (va_A ws sz) U
/-- and what cells it ends with -/
def BB (D : va_G) (cy : Nat → ClassId) (A : Nat → Prop) {S : Type} (E : S → va_W) (u : S) (t : State) : Prop := va_P D classes (E u) t.heap ∧ va_K D classes (TY cy) t ∧ va_D A (E u)
theorem PRE.blind {D : va_G} {cy : Nat → ClassId} {z : Nat → Nat} {ws : va_W} {sz : Nat} {av : List Value} : FrameBlind (va_Pc av (PRE D cy z ws sz)) := fun a U g mk q => by
  obtain ⟨q0, q1, qP, qK, qD, qS⟩ := q
  exact ⟨q0, q1, qP, va_K.moved (u := U) (U := U.calling g mk a) (Vm.Alike.refl U.vm) qK, qD, SD.same (u := U) (U := U.calling g mk a) rfl rfl qS⟩
section OWN
variable {p : Program} {l : Launch} {e : Env} {R : Room} {s : State} {m : MethodId} {args : Array Value} {below : List Frame} {meth : Method} {c : Code} {H : Heap} {locs : List Loc} {cells slots : Nat} {Q : State → Prop}
variable {cc : ByteArray} {pc : Nat} {ls : Array Slot} {rest : List Value} {D : va_G} {cy : Nat → ClassId} {z : Nat → Nat} {A : Nat → Prop} {a : Nat} {ws wc wr : va_W}
theorem tI {x y : Int32} (h : x = y) (k : W p l e R s m args below meth c H locs cells slots Q (F0 m pc ls (.int y :: rest))) : W p l e R s m args below meth c H locs cells slots Q (F0 m pc ls (.int x :: rest)) := h ▸ k
theorem tL {x y : Int64} (h : x = y) (k : W p l e R s m args below meth c H locs cells slots Q (F0 m pc ls (.long y :: rest))) : W p l e R s m args below meth c H locs cells slots Q (F0 m pc ls (.long x :: rest)) := h ▸ k
theorem tV {x y : Value} (h : x = y) (k : W p l e R s m args below meth c H locs cells slots Q (F0 m pc ls (y :: rest))) : W p l e R s m args below meth c H locs cells slots Q (F0 m pc ls (x :: rest)) := h ▸ k
theorem subP (hP : va_P D classes ws H) (is : List Nat) (hC : is.map (fun i => ws[i]?) = wc.map some) : va_P D classes wc H := by
  intro k q hk
  have h1 : (is.map (fun i => ws[i]?))[k]? = some (some q) := by rw [hC, List.getElem?_map, hk]; rfl
  rw [List.getElem?_map] at h1
  cases hi : is[k]? with
  | none => rw [hi] at h1; cases h1
  | some i => rw [hi] at h1; exact hP i q (Option.some.inj h1)
theorem preS (hP : va_P D classes ws H) (hD : va_D A ws) (hK : va_K D classes (TY cy) s) (hSD : SD z A s) (hS : va_S A s.heap H locs) (hA : ∀ q, s.heap.size ≤ q → A q) (isC : List Nat) (hC : isC.map (fun i => ws[i]?) = wc.map some) (hn : va_nd isC = true) {As : List Value} : PreS s H (va_Pc As (PRE D cy z wc H.size)) As :=
  ⟨PRE.blind, fun U hU hW => ⟨rfl, by rw [hU], by rw [hU]; exact subP hP isC hC, va_K.moved hW.alike hK, (hD.sub isC hn hC).weaken (fun _ _ _ _ => trivial), hSD.pass (fun a h1 h2 => by rw [hU]; exact hS.2.1 a h1 h2) hW (va_free hD hS hA isC hC)⟩⟩
theorem preV (hP : va_P D classes ws H) (hD : va_D A ws) (hK : va_K D classes (TY cy) s) (hSD : SD z A s) (hS : va_S A s.heap H locs) (hA : ∀ q, s.heap.size ≤ q → A q) (isC : List Nat) (hC : isC.map (fun i => ws[i]?) = wc.map some) (hn : va_nd isC = true) {As : List Value} {b q0 ci : Nat} {fs : List Value} {q : vw_C} (hc : classes[ci]? = some q) (he : wc[q0]? = some (b, .inr (ci, fs))) : PreV s H q.1 b (va_Pc (.ref b :: As) (PRE D cy z wc H.size)) As :=
  ⟨PRE.blind, va_recv hK (subP hP isC hC) hc he, (preS (As := .ref b :: As) hP hD hK hSD hS hA isC hC hn).2⟩
theorem endi {S : Type} {post : Int32 → S → Prop} {E : S → va_W} {mc ms pc : Nat} {st0 : List Value} {ar : Array Value} (hr : va_Run p l e R s m args below meth c H locs cells slots mc ms (F0 m pc ls st0) rest (va_Qi post (BB D cy (va_A wc H.size) E) (va_A wc H.size) ar) (va_A wc H.size)) (hP : va_P D classes ws H) (hD : va_D A ws) (hS : va_S A s.heap H locs) (hA : ∀ q, s.heap.size ≤ q → A q) (isC isR : List Nat) (hC : isC.map (fun i => ws[i]?) = wc.map some) (hR : isR.map (fun i => ws[i]?) = wr.map some) (hn : va_nd isR = true) (hdis : ∀ i ∈ isR, i ∉ isC)
    (kk : ∀ (r : Int32) (u : S) (H1 : Heap) (locs1 : List Loc), post r u → va_P D classes (wr ++ E u) H1 → va_D A (wr ++ E u) → va_S A s.heap H1 locs1 → W p l e R s m args below meth c H1 locs1 (cells + mc) (slots + ms) Q (F0 m (pc + 3) ls (.int r :: rest))) : W p l e R s m args below meth c H locs cells slots Q (F0 m pc ls st0) := by
  have hF := va_free (wc := wc) hD hS hA isC hC
  refine va_calli hr hS (fun q _ h => hF q h) hF (fun r u t H1 locs1 ht hvm hw hB hz1 hk1 hS1 => ?_)
  obtain ⟨hP1, -, hD1⟩ := hB
  rw [ht] at hP1
  obtain ⟨j1, j2⟩ := va_join hP hD isC isR hC hR hn hdis hk1 hF hP1 hD1
  exact kk r u H1 locs1 hw j1 j2 hS1
theorem endl {S : Type} {post : Int64 → S → Prop} {E : S → va_W} {mc ms pc : Nat} {st0 : List Value} {ar : Array Value} (hr : va_Run p l e R s m args below meth c H locs cells slots mc ms (F0 m pc ls st0) rest (va_Ql post (BB D cy (va_A wc H.size) E) (va_A wc H.size) ar) (va_A wc H.size)) (hP : va_P D classes ws H) (hD : va_D A ws) (hS : va_S A s.heap H locs) (hA : ∀ q, s.heap.size ≤ q → A q) (isC isR : List Nat) (hC : isC.map (fun i => ws[i]?) = wc.map some) (hR : isR.map (fun i => ws[i]?) = wr.map some) (hn : va_nd isR = true) (hdis : ∀ i ∈ isR, i ∉ isC)
    (kk : ∀ (r : Int64) (u : S) (H1 : Heap) (locs1 : List Loc), post r u → va_P D classes (wr ++ E u) H1 → va_D A (wr ++ E u) → va_S A s.heap H1 locs1 → W p l e R s m args below meth c H1 locs1 (cells + mc) (slots + ms) Q (F0 m (pc + 3) ls (.long r :: rest))) : W p l e R s m args below meth c H locs cells slots Q (F0 m pc ls st0) := by
  have hF := va_free (wc := wc) hD hS hA isC hC
  refine va_calll hr hS (fun q _ h => hF q h) hF (fun r u t H1 locs1 ht hvm hw hB hz1 hk1 hS1 => ?_)
  obtain ⟨hP1, -, hD1⟩ := hB
  rw [ht] at hP1
  obtain ⟨j1, j2⟩ := va_join hP hD isC isR hC hR hn hdis hk1 hF hP1 hD1
  exact kk r u H1 locs1 hw j1 j2 hS1
theorem endv {S : Type} {post : S → Prop} {E : S → va_W} {mc ms pc : Nat} {st0 : List Value} {ar : Array Value} (hr : va_Run p l e R s m args below meth c H locs cells slots mc ms (F0 m pc ls st0) rest (va_Qv post (BB D cy (va_A wc H.size) E) (va_A wc H.size) ar) (va_A wc H.size)) (hP : va_P D classes ws H) (hD : va_D A ws) (hS : va_S A s.heap H locs) (hA : ∀ q, s.heap.size ≤ q → A q) (isC isR : List Nat) (hC : isC.map (fun i => ws[i]?) = wc.map some) (hR : isR.map (fun i => ws[i]?) = wr.map some) (hn : va_nd isR = true) (hdis : ∀ i ∈ isR, i ∉ isC)
    (kk : ∀ (u : S) (H1 : Heap) (locs1 : List Loc), post u → va_P D classes (wr ++ E u) H1 → va_D A (wr ++ E u) → va_S A s.heap H1 locs1 → W p l e R s m args below meth c H1 locs1 (cells + mc) (slots + ms) Q (F0 m (pc + 3) ls rest)) : W p l e R s m args below meth c H locs cells slots Q (F0 m pc ls st0) := by
  have hF := va_free (wc := wc) hD hS hA isC hC
  refine va_callv hr hS (fun q _ h => hF q h) hF (fun u t H1 locs1 ht hvm hw hB hz1 hk1 hS1 => ?_)
  obtain ⟨hP1, -, hD1⟩ := hB
  rw [ht] at hP1
  obtain ⟨j1, j2⟩ := va_join hP hD isC isR hC hR hn hdis hk1 hF hP1 hD1
  exact kk u H1 locs1 hw j1 j2 hS1
theorem newaC {atype : ArrayType} (hexec : p.tables.exec = Jvm.exec) (hb : c.code = cc) (harr : (Cond.arrayClass (newarray.typeOf atype)).before args s = true) {ty : FieldType} (hty : newarray.typeOf atype = ty) (hobj : ∀ C, ty ≠ .object C) (hK : va_K D classes (TY cy) s) (hP : va_P D classes ws H) (hD : va_D A ws) (hS : va_S A s.heap H locs) (hA : ∀ q, s.heap.size ≤ q → A q) (t0 : Nat) {cA : ClassId} (ht : (TY cy)[t0]? = some (cA, ty))
    {n : Int32} {N' : Nat} {a0 : vp_A} (ha : ∀ cA : ClassId, vp_cell cA a0 = arrV cA N' (fun _ => defaultValue ty)) (hn : ¬ n < 0) (hN : n.toNatClampNeg = N') (hbytes : N' * componentBytes ty ≤ 536870912) (hcells : cells + 1 ≤ R.cells) (hslots : slots + N' ≤ R.slots) (hdg : decode cc pc = .ok (.newarray atype, 2))
    (kk : ∀ (q : Nat) (H1 : Heap), va_P D classes (ws ++ [(q, .inl (cA, a0))]) H1 → va_D A (ws ++ [(q, .inl (cA, a0))]) → va_S A s.heap H1 locs →
      W p l e R s m args below meth c H1 locs (cells + 1) (slots + N') Q (F0 m (pc + 2) ls (.ref q :: rest))) : W p l e R s m args below meth c H locs cells slots Q (F0 m pc ls (.int n :: rest)) := by
  refine va_newa hexec hb harr hty hK hP hD hS hA ha hn hN hbytes hcells hslots hdg (fun q cB H1 hK1 hP1 hD1 hS1 => ?_)
  have e1 := (hK1.2 6 (cB, ty) rfl).2
  have e2 := (hK.2 t0 (cA, ty) ht).2
  have e : cB = cA := by
    cases ty with
    | object C => exact absurd rfl (hobj C)
    | _ => exact Option.some.inj (e1.symm.trans e2)
  subst e
  exact kk q H1 hP1 hD1 hS1
theorem newqC (hexec : p.tables.exec = Jvm.exec) (hb : c.code = cc) {own C : String} {index : Nat} (hown : s.vm.findClass own = some m.cls) (hclink : (Cond.classLink own index C).before args s = true) (hover : va_AO C s) (hK : va_K D classes (TY cy) s) (hP : va_P D classes ws H) (hD : va_D A ws) (hS : va_S A s.heap H locs) (hA : ∀ q, s.heap.size ≤ q → A q) (t0 : Nat) {cA : ClassId} (ht : (TY cy)[t0]? = some (cA, .object C))
    {n : Int32} {N' : Nat} (hn : ¬ n < 0) (hN : n.toNatClampNeg = N') (hbytes : N' * 4 ≤ 536870912) (hcells : cells + 1 ≤ R.cells) (hslots : slots + N' ≤ R.slots) (hdg : decode cc pc = .ok (.anewarray index, 3))
    (kk : ∀ (q : Nat) (H1 : Heap), va_P D classes (ws ++ [(q, .inl (cA, N', .inr (.inr (.inr (.inr (fun _ => none))))))]) H1 → va_D A (ws ++ [(q, .inl (cA, N', .inr (.inr (.inr (.inr (fun _ => none))))))]) → va_S A s.heap H1 locs →
      W p l e R s m args below meth c H1 locs (cells + 1) (slots + N') Q (F0 m (pc + 3) ls (.ref q :: rest))) : W p l e R s m args below meth c H locs cells slots Q (F0 m pc ls (.int n :: rest)) := by
  refine va_newq hexec hb hown hclink hover hK hP hD hS hA hn hN hbytes hcells hslots hdg (fun q cB H1 hK1 hP1 hD1 hS1 => ?_)
  obtain ⟨_, _, _, _, _, e1⟩ := (hK1.2 6 (cB, .object C) rfl).2
  obtain ⟨_, _, _, _, _, e2⟩ := (hK.2 t0 (cA, .object C) ht).2
  have e : cB = cA := Option.some.inj (e1.symm.trans e2)
  subst e
  exact kk q H1 hP1 hD1 hS1
end OWN
theorem fillEq {cA : ClassId} {n : Nat} {f g : Nat → Int32} (h : ∀ j, j < n → f j = g j) : vp_cell cA (n, .inl f) = vp_cell cA (n, .inl g) := by
  rw [vp_cell_i, vp_cell_i]
  unfold arrV
  congr 1
  first
    | (apply Array.ext (by simp); intro i h1 h2; simp at h1 ⊢; exact h i (by simpa using h1))
    | (apply congrArg; apply List.map_congr_left; intro i hi; rw [h i (List.mem_range.mp hi)])
theorem congP {D : va_G} {ws ws' : va_W} {H : Heap} (hP : va_P D classes ws H) (k : Nat) {a : Nat} {cA : ClassId} {n : Nat} {f g : Nat → Int32} (hk : ws[k]? = some (a, .inl (cA, n, .inl f))) (h : ∀ j, j < n → f j = g j) (hs : ws.set k (a, .inl (cA, n, .inl g)) = ws') : va_P D classes ws' H := by
  subst hs
  intro j q hj
  by_cases e : k = j
  · subst e
    have hlt : k < ws.length := (List.getElem?_eq_some_iff.mp hk).1
    rw [List.getElem?_set_self hlt] at hj
    cases hj
    show H[a]? = some (vp_cell cA (n, .inl g))
    rw [← fillEq h]
    exact hP k _ hk
  · rw [List.getElem?_set_ne e] at hj
    exact hP j q hj
theorem lpGe {i N : Nat} {v : Int32} (hv : v = nI N) (hN : N < 2 ^ 31) (hi : i ≤ N) (c : v ≤ nI i) : i = N := by
  subst hv
  rcases Nat.lt_or_ge i N with h | h
  · exact absurd c (nI_ge h hN)
  · omega
theorem lpLt {i N : Nat} {v : Int32} (hv : v = nI N) (hN : N < 2 ^ 31) (hi : i ≤ N) (c : ¬ v ≤ nI i) : i < N := by
  subst hv
  rcases Nat.lt_or_ge i N with h | h
  · exact h
  · exact absurd (nI_le h (by omega)) c
theorem fillS {g : Nat → Int32} {i : Nat} {v : Int32} (h : ∀ j, j < i → g j = v) : ∀ j, j < i + 1 → upd g i v j = v := by
  intro j hj
  by_cases e : j = i
  · rw [e]; exact pk_us
  · rw [pk_un e]; exact h j (by omega)
theorem congD {A : Nat → Prop} {ws ws' : va_W} (hD : va_D A ws) (k : Nat) {a : Nat} {cA : ClassId} {n : Nat} {f g : Nat → Int32} (hk : ws[k]? = some (a, .inl (cA, n, .inl f))) (hs : ws.set k (a, .inl (cA, n, .inl g)) = ws') : va_D A ws' := by
  subst hs
  exact hD.set hk
theorem preT {s : State} {H : Heap} {locs : List Loc} {D : va_G} {cy : Nat → ClassId} {z : Nat → Nat} {A : Nat → Prop} {ws wc : va_W} (hP : va_P D classes ws H) (hD : va_D A ws) (hK : va_K D classes (TY cy) s) (hSD : SD z A s) (hS : va_S A s.heap H locs) (hA : ∀ q, s.heap.size ≤ q → A q) (isC : List Nat) (hC : isC.map (fun i => ws[i]?) = wc.map some) (hn : va_nd isC = true) {As : List Value} : PreV s H "java/lang/String" (z 1) (va_Pc (.ref (z 1) :: As) (PRE D cy z wc H.size)) As := by
  refine ⟨PRE.blind, ?_, (preS (As := .ref (z 1) :: As) hP hD hK hSD hS hA isC hC hn).2⟩
  obtain ⟨cell, h1, h2, h3, -⟩ := (hSD.2.2.2.2.2.2.2.1.1).kept hS.2.1
  exact ⟨cell, h1, h2, h3⟩
theorem clOf {v : Int32} {n : Nat} (h0 : ¬ v < 0) (h1 : ¬ nI n ≤ v) (hn : n < 2 ^ 31) : v.toNatClampNeg < n := by
  obtain ⟨j, hj, e, -, e2, -⟩ := pk_mu h0 h1 hn
  rw [e2]; exact hj
theorem inOf {v : Int32} {n : Nat} (h0 : ¬ v < 0) (h1 : ¬ nI n ≤ v) (hn : n < 2 ^ 31) : vp_in v n := fun h => h.elim h0 (fun h2 => absurd (clOf h0 h1 hn) (Nat.not_lt.mpr h2))
theorem twoOf {v : Int32} (h0 : ¬ v < 0) (h1 : ¬ (2 : Int32) ≤ v) : v = 0 ∨ v = 1 := by
  obtain ⟨j, hj, e, -⟩ := pk_mu (L := 2) h0 h1 (by decide)
  rcases (show j = 0 ∨ j = 1 by omega) with h | h
  · rw [h] at e; exact Or.inl e
  · rw [h] at e; exact Or.inr e
theorem daysOf {v : Int32} (h0 : ¬ v < 1) (h1 : v ≤ 60) : ∃ j : Nat, 1 ≤ j ∧ j ≤ 60 ∧ v = nI j := by
  have a0 : ¬ v.toInt < 1 := fun h => h0 (Int32.lt_iff_toInt_lt.mpr h)
  have a1 : v.toInt ≤ 60 := Int32.le_iff_toInt_le.mp h1
  have h2 : ¬ v < 0 := fun h => a0 (by have := Int32.lt_iff_toInt_lt.mp h; have e : (0 : Int32).toInt = 0 := rfl; omega)
  obtain ⟨j, hj, e⟩ := nI_of2 (M := 60) (n := 60) rfl h2 h1
  refine ⟨j, ?_, hj, e⟩
  rw [e, nI_toInt (by omega)] at a0
  omega
end
section
theorem inX0 : ∀ w ∈ u_ws RX0 TX0 5, w ∈ gT := by decide +kernel
theorem dfX0 : ∀ j, j < 5 → defaultValue (tyX0 j) = vp_V [.null, .null, .null, .int 0, .int 0] j := by decide +kernel
theorem inX1 : ∀ w ∈ u_ws RX1 TX1 3, w ∈ gT := by decide +kernel
theorem dfX1 : ∀ j, j < 3 → defaultValue (tyX1 j) = vp_V [.null, .int 0, .int 0] j := by decide +kernel
theorem inX2 : ∀ w ∈ u_ws RX2 TX2 3, w ∈ gT := by decide +kernel
theorem dfX2 : ∀ j, j < 3 → defaultValue (tyX2 j) = vp_V [.null, .null, .int 0] j := by decide +kernel
theorem inX3 : ∀ w ∈ u_ws RX3 TX3 9, w ∈ gT := by decide +kernel
theorem dfX3 : ∀ j, j < 9 → defaultValue (tyX3 j) = vp_V [.null, .null, .null, .null, .null, .int 0, .int 0, .int 0, .int 0] j := by decide +kernel
theorem inX4 : ∀ w ∈ u_ws RX4 TX4 2, w ∈ gT := by decide +kernel
theorem dfX4 : ∀ j, j < 2 → defaultValue (tyX4 j) = vp_V [.null, .null] j := by decide +kernel
theorem inX6 : ∀ w ∈ u_ws RX6 TX6 2, w ∈ gT := by decide +kernel
theorem dfX6 : ∀ j, j < 2 → defaultValue (tyX6 j) = vp_V [.null, .int 0] j := by decide +kernel
theorem inX7 : ∀ w ∈ u_ws RX7 TX7 12, w ∈ gT := by decide +kernel
theorem dfX7 : ∀ j, j < 12 → defaultValue (tyX7 j) = vp_V [.null, .null, .int 0, .int 0, .int 0, .int 0, .int 0, .int 0, .long 0, .int 0, .int 0, .int 0] j := by decide +kernel
theorem inX8 : ∀ w ∈ u_ws RX8 TX8 13, w ∈ gT := by decide +kernel
theorem dfX8 : ∀ j, j < 13 → defaultValue (tyX8 j) = vp_V [.null, .int 0, .null, .null, .null, .null, .null, .null, .null, .null, .null, .null, .int 0] j := by decide +kernel
theorem inX9 : ∀ w ∈ u_ws RX9 TX9 15, w ∈ gT := by decide +kernel
theorem dfX9 : ∀ j, j < 15 → defaultValue (tyX9 j) = vp_V [.null, .null, .null, .null, .null, .null, .null, .null, .null, .null, .null, .int 0, .int 0, .int 0, .int 0] j := by decide +kernel
theorem tw_2 : Cond.initialized RX7 ∈ gT := gT_t (List.mem_of_getElem? (i := 2) (by decide +kernel)) (by decide +kernel)
theorem tw_3 : Cond.initialized RJ0 ∈ gT := gT_t (List.mem_of_getElem? (i := 3) (by decide +kernel)) (by decide +kernel)
theorem tw_4 : Cond.initialized RJ1 ∈ gT := gT_t (List.mem_of_getElem? (i := 4) (by decide +kernel)) (by decide +kernel)
theorem tw_5 : Cond.initialized RJ3 ∈ gT := gT_t (List.mem_of_getElem? (i := 5) (by decide +kernel)) (by decide +kernel)
theorem tw_7 : Cond.initialized RX0 ∈ gT := gT_t (List.mem_of_getElem? (i := 7) (by decide +kernel)) (by decide +kernel)
theorem tw_8 : Cond.initialized RX4 ∈ gT := gT_t (List.mem_of_getElem? (i := 8) (by decide +kernel)) (by decide +kernel)
theorem tw_9 : Cond.initialized RJ7 ∈ gT := gT_t (List.mem_of_getElem? (i := 9) (by decide +kernel)) (by decide +kernel)
theorem tw_10 : Cond.initialized RX6 ∈ gT := gT_t (List.mem_of_getElem? (i := 10) (by decide +kernel)) (by decide +kernel)
theorem tw_11 : Cond.initialized RX3 ∈ gT := gT_t (List.mem_of_getElem? (i := 11) (by decide +kernel)) (by decide +kernel)
theorem tw_12 : Cond.initialized RX8 ∈ gT := gT_t (List.mem_of_getElem? (i := 12) (by decide +kernel)) (by decide +kernel)
theorem tw_13 : Cond.initialized RX1 ∈ gT := gT_t (List.mem_of_getElem? (i := 13) (by decide +kernel)) (by decide +kernel)
theorem tw_14 : Cond.initialized RX2 ∈ gT := gT_t (List.mem_of_getElem? (i := 14) (by decide +kernel)) (by decide +kernel)
theorem tw_16 : Cond.initialized RJ9 ∈ gT := gT_t (List.mem_of_getElem? (i := 16) (by decide +kernel)) (by decide +kernel)
theorem tw_17 : Cond.initialized RJ10 ∈ gT := gT_t (List.mem_of_getElem? (i := 17) (by decide +kernel)) (by decide +kernel)
theorem tw_29 : Cond.methodLink RX9 (1 : Nat) (⟨"java/lang/Object", "<init>", "()V"⟩ : MethodName) ∈ gT := gT_t (List.mem_of_getElem? (i := 29) (by decide +kernel)) (by decide +kernel)
theorem tw_30 : Cond.instanceMethod (⟨"java/lang/Object", "<init>", "()V"⟩ : MethodName) ∈ gT := gT_t (List.mem_of_getElem? (i := 30) (by decide +kernel)) (by decide +kernel)
theorem tw_31 : Cond.code (⟨"java/lang/Object", "<init>", "()V"⟩ : MethodName) object_method_1_code (1 : Nat) (Option.none : Option Jvm.ClassFile.FieldType) ∈ gT := gT_t (List.mem_of_getElem? (i := 31) (by decide +kernel)) (by decide +kernel)
theorem tw_32 : Cond.classLink RX9 (7 : Nat) RX7 ∈ gT := gT_t (List.mem_of_getElem? (i := 32) (by decide +kernel)) (by decide +kernel)
theorem tw_33 : Cond.instantiable RX7 (12 : Nat) ∈ gT := gT_t (List.mem_of_getElem? (i := 33) (by decide +kernel)) (by decide +kernel)
theorem tw_34 : Cond.methodLink RX9 (9 : Nat) yX7_init ∈ gT := gT_t (List.mem_of_getElem? (i := 34) (by decide +kernel)) (by decide +kernel)
theorem tw_35 : Cond.instanceMethod yX7_init ∈ gT := gT_t (List.mem_of_getElem? (i := 35) (by decide +kernel)) (by decide +kernel)
theorem tw_36 : Cond.code yX7_init cX7_init 6 none ∈ gT := gT_t (List.mem_of_getElem? (i := 36) (by decide +kernel)) (by decide +kernel)
theorem tw_37 : Cond.methodLink RX7 (3 : Nat) (⟨"java/lang/Object", "<init>", "()V"⟩ : MethodName) ∈ gT := gT_t (List.mem_of_getElem? (i := 37) (by decide +kernel)) (by decide +kernel)
theorem tw_39 : Cond.methodLink RX7 (25 : Nat) yJ0_length_8abf5 ∈ gT := gT_t (List.mem_of_getElem? (i := 39) (by decide +kernel)) (by decide +kernel)
theorem tw_40 : Cond.instanceMethod yJ0_length_8abf5 ∈ gT := gT_t (List.mem_of_getElem? (i := 40) (by decide +kernel)) (by decide +kernel)
theorem tw_41 : Cond.selects RJ0 yJ0_length_8abf5 yJ0_length_8abf5 ∈ gT := gT_t (List.mem_of_getElem? (i := 41) (by decide +kernel)) (by decide +kernel)
theorem tw_42 : Cond.code yJ0_length_8abf5 cJ0_length_8abf5 1 (some .int) ∈ gT := gT_t (List.mem_of_getElem? (i := 42) (by decide +kernel)) (by decide +kernel)
theorem tw_43 : Cond.methodLink RJ0 (335 : Nat) yJ0_coder_7d493 ∈ gT := gT_t (List.mem_of_getElem? (i := 43) (by decide +kernel)) (by decide +kernel)
theorem tw_44 : Cond.instanceMethod yJ0_coder_7d493 ∈ gT := gT_t (List.mem_of_getElem? (i := 44) (by decide +kernel)) (by decide +kernel)
theorem tw_45 : Cond.selects RJ0 yJ0_coder_7d493 yJ0_coder_7d493 ∈ gT := gT_t (List.mem_of_getElem? (i := 45) (by decide +kernel)) (by decide +kernel)
theorem tw_46 : Cond.code yJ0_coder_7d493 cJ0_coder_7d493 1 (some .byte) ∈ gT := gT_t (List.mem_of_getElem? (i := 46) (by decide +kernel)) (by decide +kernel)
theorem tw_47 : Cond.fieldLink RJ0 (38 : Nat) "java/lang/String" "COMPACT_STRINGS" "Z" ∈ gT := gT_t (List.mem_of_getElem? (i := 47) (by decide +kernel)) (by decide +kernel)
theorem tw_49 : Cond.methodLink RX7 (30 : Nat) yJ0_charAt_5068e ∈ gT := gT_t (List.mem_of_getElem? (i := 49) (by decide +kernel)) (by decide +kernel)
theorem tw_50 : Cond.instanceMethod yJ0_charAt_5068e ∈ gT := gT_t (List.mem_of_getElem? (i := 50) (by decide +kernel)) (by decide +kernel)
theorem tw_51 : Cond.selects RJ0 yJ0_charAt_5068e yJ0_charAt_5068e ∈ gT := gT_t (List.mem_of_getElem? (i := 51) (by decide +kernel)) (by decide +kernel)
theorem tw_52 : Cond.code yJ0_charAt_5068e cJ0_charAt_5068e 2 (some .char) ∈ gT := gT_t (List.mem_of_getElem? (i := 52) (by decide +kernel)) (by decide +kernel)
theorem tw_53 : Cond.methodLink RJ0 (492 : Nat) yJ0_isLatin1_aae02 ∈ gT := gT_t (List.mem_of_getElem? (i := 53) (by decide +kernel)) (by decide +kernel)
theorem tw_54 : Cond.instanceMethod yJ0_isLatin1_aae02 ∈ gT := gT_t (List.mem_of_getElem? (i := 54) (by decide +kernel)) (by decide +kernel)
theorem tw_55 : Cond.selects RJ0 yJ0_isLatin1_aae02 yJ0_isLatin1_aae02 ∈ gT := gT_t (List.mem_of_getElem? (i := 55) (by decide +kernel)) (by decide +kernel)
theorem tw_56 : Cond.code yJ0_isLatin1_aae02 cJ0_isLatin1_aae02 1 (some .boolean) ∈ gT := gT_t (List.mem_of_getElem? (i := 56) (by decide +kernel)) (by decide +kernel)
theorem tw_57 : Cond.methodLink RJ0 (495 : Nat) yJ1_charAt_3b067 ∈ gT := gT_t (List.mem_of_getElem? (i := 57) (by decide +kernel)) (by decide +kernel)
theorem tw_58 : Cond.static yJ1_charAt_3b067 ∈ gT := gT_t (List.mem_of_getElem? (i := 58) (by decide +kernel)) (by decide +kernel)
theorem tw_59 : Cond.code yJ1_charAt_3b067 cJ1_charAt_3b067 2 (some .char) ∈ gT := gT_t (List.mem_of_getElem? (i := 59) (by decide +kernel)) (by decide +kernel)
theorem tw_60 : Cond.methodLink RJ1 (9 : Nat) yJ0_checkIndex_df160 ∈ gT := gT_t (List.mem_of_getElem? (i := 60) (by decide +kernel)) (by decide +kernel)
theorem tw_61 : Cond.static yJ0_checkIndex_df160 ∈ gT := gT_t (List.mem_of_getElem? (i := 61) (by decide +kernel)) (by decide +kernel)
theorem tw_62 : Cond.code yJ0_checkIndex_df160 cJ0_checkIndex_df160 2 none ∈ gT := gT_t (List.mem_of_getElem? (i := 62) (by decide +kernel)) (by decide +kernel)
theorem tw_63 : Cond.fieldLink RJ0 (1053 : Nat) "jdk/internal/util/Preconditions" "SIOOBE_FORMATTER" "Ljava/util/function/BiFunction;" ∈ gT := gT_t (List.mem_of_getElem? (i := 63) (by decide +kernel)) (by decide +kernel)
theorem tw_65 : Cond.methodLink RJ0 (1059 : Nat) yJ3_checkIndex_8e157 ∈ gT := gT_t (List.mem_of_getElem? (i := 65) (by decide +kernel)) (by decide +kernel)
theorem tw_66 : Cond.static yJ3_checkIndex_8e157 ∈ gT := gT_t (List.mem_of_getElem? (i := 66) (by decide +kernel)) (by decide +kernel)
theorem tw_67 : Cond.code yJ3_checkIndex_8e157 cJ3_checkIndex_8e157 3 (some .int) ∈ gT := gT_t (List.mem_of_getElem? (i := 67) (by decide +kernel)) (by decide +kernel)
theorem tw_87 : Cond.fieldLink RX7 (11 : Nat) "WonderParcels$Tape" "bytes" "[B" ∈ gT := gT_t (List.mem_of_getElem? (i := 87) (by decide +kernel)) (by decide +kernel)
theorem tw_88 : Cond.fieldLink RX7 (15 : Nat) "WonderParcels$Tape" "words" "[J" ∈ gT := gT_t (List.mem_of_getElem? (i := 88) (by decide +kernel)) (by decide +kernel)
theorem tw_89 : Cond.fieldLink RX7 (19 : Nat) "WonderParcels$Tape" "length" "I" ∈ gT := gT_t (List.mem_of_getElem? (i := 89) (by decide +kernel)) (by decide +kernel)
theorem tw_91 : Cond.fieldLink RX7 (38 : Nat) "WonderParcels$Tape" "stop" "I" ∈ gT := gT_t (List.mem_of_getElem? (i := 91) (by decide +kernel)) (by decide +kernel)
theorem tw_92 : Cond.fieldLink RX7 (34 : Nat) "WonderParcels$Tape" "tooLong" "Z" ∈ gT := gT_t (List.mem_of_getElem? (i := 92) (by decide +kernel)) (by decide +kernel)
theorem tw_93 : Cond.fieldLink RX7 (60 : Nat) "WonderParcels$Tape" "begin" "I" ∈ gT := gT_t (List.mem_of_getElem? (i := 93) (by decide +kernel)) (by decide +kernel)
theorem tw_94 : Cond.fieldLink RX7 (41 : Nat) "WonderParcels$Tape" "after" "I" ∈ gT := gT_t (List.mem_of_getElem? (i := 94) (by decide +kernel)) (by decide +kernel)
theorem tw_98 : Cond.fieldLink RX7 (53 : Nat) "WonderParcels$Tape" "kind" "I" ∈ gT := gT_t (List.mem_of_getElem? (i := 98) (by decide +kernel)) (by decide +kernel)
theorem tw_104 : Cond.fieldLink RX7 (44 : Nat) "WonderParcels$Tape" "fault" "I" ∈ gT := gT_t (List.mem_of_getElem? (i := 104) (by decide +kernel)) (by decide +kernel)
theorem tw_108 : Cond.fieldLink RX7 (47 : Nat) "WonderParcels$Tape" "place" "I" ∈ gT := gT_t (List.mem_of_getElem? (i := 108) (by decide +kernel)) (by decide +kernel)
theorem tw_134 : Cond.arrayClass Jvm.ClassFile.FieldType.byte ∈ gT := gT_t (List.mem_of_getElem? (i := 134) (by decide +kernel)) (by decide +kernel)
theorem tw_135 : Cond.arrayClass Jvm.ClassFile.FieldType.long ∈ gT := gT_t (List.mem_of_getElem? (i := 135) (by decide +kernel)) (by decide +kernel)
theorem tw_136 : Cond.classLink RX9 (16 : Nat) RX0 ∈ gT := gT_t (List.mem_of_getElem? (i := 136) (by decide +kernel)) (by decide +kernel)
theorem tw_137 : Cond.instantiable RX0 (5 : Nat) ∈ gT := gT_t (List.mem_of_getElem? (i := 137) (by decide +kernel)) (by decide +kernel)
theorem tw_139 : Cond.instanceMethod yX0_init ∈ gT := gT_t (List.mem_of_getElem? (i := 139) (by decide +kernel)) (by decide +kernel)
theorem tw_140 : Cond.code yX0_init cX0_init 1 none ∈ gT := gT_t (List.mem_of_getElem? (i := 140) (by decide +kernel)) (by decide +kernel)
theorem tw_141 : Cond.methodLink RX0 (3 : Nat) (⟨"java/lang/Object", "<init>", "()V"⟩ : MethodName) ∈ gT := gT_t (List.mem_of_getElem? (i := 141) (by decide +kernel)) (by decide +kernel)
theorem tw_142 : Cond.fieldLink RX0 (11 : Nat) "WonderParcels$Book" "what" "[I" ∈ gT := gT_t (List.mem_of_getElem? (i := 142) (by decide +kernel)) (by decide +kernel)
theorem tw_143 : Cond.fieldLink RX0 (15 : Nat) "WonderParcels$Book" "first" "[I" ∈ gT := gT_t (List.mem_of_getElem? (i := 143) (by decide +kernel)) (by decide +kernel)
theorem tw_144 : Cond.fieldLink RX0 (18 : Nat) "WonderParcels$Book" "second" "[I" ∈ gT := gT_t (List.mem_of_getElem? (i := 144) (by decide +kernel)) (by decide +kernel)
theorem tw_145 : Cond.fieldLink RX0 (21 : Nat) "WonderParcels$Book" "lines" "I" ∈ gT := gT_t (List.mem_of_getElem? (i := 145) (by decide +kernel)) (by decide +kernel)
theorem tw_146 : Cond.fieldLink RX0 (25 : Nat) "WonderParcels$Book" "lived" "I" ∈ gT := gT_t (List.mem_of_getElem? (i := 146) (by decide +kernel)) (by decide +kernel)
theorem tw_159 : Cond.arrayClass Jvm.ClassFile.FieldType.int ∈ gT := gT_t (List.mem_of_getElem? (i := 159) (by decide +kernel)) (by decide +kernel)
theorem tw_160 : Cond.classLink RX9 (27 : Nat) RX4 ∈ gT := gT_t (List.mem_of_getElem? (i := 160) (by decide +kernel)) (by decide +kernel)
theorem tw_161 : Cond.instantiable RX4 (2 : Nat) ∈ gT := gT_t (List.mem_of_getElem? (i := 161) (by decide +kernel)) (by decide +kernel)
theorem tw_162 : Cond.methodLink RX9 (29 : Nat) yX4_init ∈ gT := gT_t (List.mem_of_getElem? (i := 162) (by decide +kernel)) (by decide +kernel)
theorem tw_163 : Cond.instanceMethod yX4_init ∈ gT := gT_t (List.mem_of_getElem? (i := 163) (by decide +kernel)) (by decide +kernel)
theorem tw_164 : Cond.code yX4_init cX4_init 1 none ∈ gT := gT_t (List.mem_of_getElem? (i := 164) (by decide +kernel)) (by decide +kernel)
theorem tw_165 : Cond.methodLink RX4 (3 : Nat) (⟨"java/lang/Object", "<init>", "()V"⟩ : MethodName) ∈ gT := gT_t (List.mem_of_getElem? (i := 165) (by decide +kernel)) (by decide +kernel)
theorem tw_166 : Cond.methodLink RX4 (18 : Nat) yJ7_fill_53178 ∈ gT := gT_t (List.mem_of_getElem? (i := 166) (by decide +kernel)) (by decide +kernel)
theorem tw_167 : Cond.static yJ7_fill_53178 ∈ gT := gT_t (List.mem_of_getElem? (i := 167) (by decide +kernel)) (by decide +kernel)
theorem tw_168 : Cond.code yJ7_fill_53178 cJ7_fill_53178 4 none ∈ gT := gT_t (List.mem_of_getElem? (i := 168) (by decide +kernel)) (by decide +kernel)
theorem tw_169 : Cond.fieldLink RX4 (9 : Nat) "WonderParcels$Rooms" "idea" "[I" ∈ gT := gT_t (List.mem_of_getElem? (i := 169) (by decide +kernel)) (by decide +kernel)
theorem tw_170 : Cond.fieldLink RX4 (15 : Nat) "WonderParcels$Rooms" "room" "[I" ∈ gT := gT_t (List.mem_of_getElem? (i := 170) (by decide +kernel)) (by decide +kernel)
theorem tw_177 : Cond.classLink RX9 (37 : Nat) RX6 ∈ gT := gT_t (List.mem_of_getElem? (i := 177) (by decide +kernel)) (by decide +kernel)
theorem tw_178 : Cond.instantiable RX6 (2 : Nat) ∈ gT := gT_t (List.mem_of_getElem? (i := 178) (by decide +kernel)) (by decide +kernel)
theorem tw_180 : Cond.instanceMethod yX6_init ∈ gT := gT_t (List.mem_of_getElem? (i := 180) (by decide +kernel)) (by decide +kernel)
theorem tw_181 : Cond.code yX6_init cX6_init 1 none ∈ gT := gT_t (List.mem_of_getElem? (i := 181) (by decide +kernel)) (by decide +kernel)
theorem tw_182 : Cond.methodLink RX6 (1 : Nat) (⟨"java/lang/Object", "<init>", "()V"⟩ : MethodName) ∈ gT := gT_t (List.mem_of_getElem? (i := 182) (by decide +kernel)) (by decide +kernel)
theorem tw_183 : Cond.fieldLink RX6 (9 : Nat) "WonderParcels$Tag" "bytes" "[B" ∈ gT := gT_t (List.mem_of_getElem? (i := 183) (by decide +kernel)) (by decide +kernel)
theorem tw_185 : Cond.fieldLink RX6 (13 : Nat) "WonderParcels$Tag" "length" "I" ∈ gT := gT_t (List.mem_of_getElem? (i := 185) (by decide +kernel)) (by decide +kernel)
theorem tw_192 : Cond.classLink RX9 (57 : Nat) RX3 ∈ gT := gT_t (List.mem_of_getElem? (i := 192) (by decide +kernel)) (by decide +kernel)
theorem tw_193 : Cond.instantiable RX3 (9 : Nat) ∈ gT := gT_t (List.mem_of_getElem? (i := 193) (by decide +kernel)) (by decide +kernel)
theorem tw_195 : Cond.instanceMethod yX3_init ∈ gT := gT_t (List.mem_of_getElem? (i := 195) (by decide +kernel)) (by decide +kernel)
theorem tw_196 : Cond.code yX3_init cX3_init 1 none ∈ gT := gT_t (List.mem_of_getElem? (i := 196) (by decide +kernel)) (by decide +kernel)
theorem tw_197 : Cond.methodLink RX3 (3 : Nat) (⟨"java/lang/Object", "<init>", "()V"⟩ : MethodName) ∈ gT := gT_t (List.mem_of_getElem? (i := 197) (by decide +kernel)) (by decide +kernel)
theorem tw_198 : Cond.fieldLink RX3 (9 : Nat) "WonderParcels$Post" "MOST_OF_SORT" "[I" ∈ gT := gT_t (List.mem_of_getElem? (i := 198) (by decide +kernel)) (by decide +kernel)
theorem tw_200 : Cond.fieldLink RX3 (15 : Nat) "WonderParcels$Post" "names" "[J" ∈ gT := gT_t (List.mem_of_getElem? (i := 200) (by decide +kernel)) (by decide +kernel)
theorem tw_201 : Cond.fieldLink RX3 (19 : Nat) "WonderParcels$Post" "many" "[I" ∈ gT := gT_t (List.mem_of_getElem? (i := 201) (by decide +kernel)) (by decide +kernel)
theorem tw_205 : Cond.fieldLink RX3 (22 : Nat) "WonderParcels$Post" "need" "[I" ∈ gT := gT_t (List.mem_of_getElem? (i := 205) (by decide +kernel)) (by decide +kernel)
theorem tw_208 : Cond.fieldLink RX3 (25 : Nat) "WonderParcels$Post" "quarrel" "[I" ∈ gT := gT_t (List.mem_of_getElem? (i := 208) (by decide +kernel)) (by decide +kernel)
theorem tw_210 : Cond.fieldLink RX3 (28 : Nat) "WonderParcels$Post" "keen" "[I" ∈ gT := gT_t (List.mem_of_getElem? (i := 210) (by decide +kernel)) (by decide +kernel)
theorem tw_213 : Cond.fieldLink RX3 (31 : Nat) "WonderParcels$Post" "leak" "I" ∈ gT := gT_t (List.mem_of_getElem? (i := 213) (by decide +kernel)) (by decide +kernel)
theorem tw_216 : Cond.fieldLink RX3 (35 : Nat) "WonderParcels$Post" "guess" "I" ∈ gT := gT_t (List.mem_of_getElem? (i := 216) (by decide +kernel)) (by decide +kernel)
theorem tw_219 : Cond.fieldLink RX3 (38 : Nat) "WonderParcels$Post" "leakTold" "Z" ∈ gT := gT_t (List.mem_of_getElem? (i := 219) (by decide +kernel)) (by decide +kernel)
theorem tw_220 : Cond.fieldLink RX3 (42 : Nat) "WonderParcels$Post" "guessTold" "Z" ∈ gT := gT_t (List.mem_of_getElem? (i := 220) (by decide +kernel)) (by decide +kernel)
theorem tw_240 : Cond.classLink RX9 (60 : Nat) RX8 ∈ gT := gT_t (List.mem_of_getElem? (i := 240) (by decide +kernel)) (by decide +kernel)
theorem tw_241 : Cond.instantiable RX8 (13 : Nat) ∈ gT := gT_t (List.mem_of_getElem? (i := 241) (by decide +kernel)) (by decide +kernel)
theorem tw_242 : Cond.methodLink RX9 (62 : Nat) yX8_init ∈ gT := gT_t (List.mem_of_getElem? (i := 242) (by decide +kernel)) (by decide +kernel)
theorem tw_243 : Cond.instanceMethod yX8_init ∈ gT := gT_t (List.mem_of_getElem? (i := 243) (by decide +kernel)) (by decide +kernel)
theorem tw_244 : Cond.code yX8_init cX8_init 2 none ∈ gT := gT_t (List.mem_of_getElem? (i := 244) (by decide +kernel)) (by decide +kernel)
theorem tw_245 : Cond.methodLink RX8 (3 : Nat) (⟨"java/lang/Object", "<init>", "()V"⟩ : MethodName) ∈ gT := gT_t (List.mem_of_getElem? (i := 245) (by decide +kernel)) (by decide +kernel)
theorem tw_246 : Cond.methodLink RX8 (46 : Nat) yJ7_fill_53178 ∈ gT := gT_t (List.mem_of_getElem? (i := 246) (by decide +kernel)) (by decide +kernel)
theorem tw_247 : Cond.fieldLink RX8 (42 : Nat) "WonderParcels$World" "post" "LWonderParcels$Post;" ∈ gT := gT_t (List.mem_of_getElem? (i := 247) (by decide +kernel)) (by decide +kernel)
theorem tw_250 : Cond.fieldLink RX8 (52 : Nat) "WonderParcels$World" "day" "I" ∈ gT := gT_t (List.mem_of_getElem? (i := 250) (by decide +kernel)) (by decide +kernel)
theorem tw_252 : Cond.fieldLink RX8 (9 : Nat) "WonderParcels$World" "much" "[I" ∈ gT := gT_t (List.mem_of_getElem? (i := 252) (by decide +kernel)) (by decide +kernel)
theorem tw_253 : Cond.fieldLink RX8 (15 : Nat) "WonderParcels$World" "room" "[I" ∈ gT := gT_t (List.mem_of_getElem? (i := 253) (by decide +kernel)) (by decide +kernel)
theorem tw_257 : Cond.fieldLink RX8 (18 : Nat) "WonderParcels$World" "bulge" "[I" ∈ gT := gT_t (List.mem_of_getElem? (i := 257) (by decide +kernel)) (by decide +kernel)
theorem tw_260 : Cond.fieldLink RX8 (21 : Nat) "WonderParcels$World" "open" "[I" ∈ gT := gT_t (List.mem_of_getElem? (i := 260) (by decide +kernel)) (by decide +kernel)
theorem tw_262 : Cond.fieldLink RX8 (24 : Nat) "WonderParcels$World" "turned" "[I" ∈ gT := gT_t (List.mem_of_getElem? (i := 262) (by decide +kernel)) (by decide +kernel)
theorem tw_265 : Cond.fieldLink RX8 (27 : Nat) "WonderParcels$World" "wish" "[I" ∈ gT := gT_t (List.mem_of_getElem? (i := 265) (by decide +kernel)) (by decide +kernel)
theorem tw_268 : Cond.fieldLink RX8 (30 : Nat) "WonderParcels$World" "seat" "[I" ∈ gT := gT_t (List.mem_of_getElem? (i := 268) (by decide +kernel)) (by decide +kernel)
theorem tw_271 : Cond.fieldLink RX8 (33 : Nat) "WonderParcels$World" "right" "[I" ∈ gT := gT_t (List.mem_of_getElem? (i := 271) (by decide +kernel)) (by decide +kernel)
theorem tw_273 : Cond.fieldLink RX8 (36 : Nat) "WonderParcels$World" "wrong" "[I" ∈ gT := gT_t (List.mem_of_getElem? (i := 273) (by decide +kernel)) (by decide +kernel)
theorem tw_275 : Cond.fieldLink RX8 (39 : Nat) "WonderParcels$World" "gain" "[I" ∈ gT := gT_t (List.mem_of_getElem? (i := 275) (by decide +kernel)) (by decide +kernel)
theorem tw_304 : Cond.classLink RX9 (72 : Nat) RX1 ∈ gT := gT_t (List.mem_of_getElem? (i := 304) (by decide +kernel)) (by decide +kernel)
theorem tw_305 : Cond.instantiable RX1 (3 : Nat) ∈ gT := gT_t (List.mem_of_getElem? (i := 305) (by decide +kernel)) (by decide +kernel)
theorem tw_306 : Cond.methodLink RX9 (74 : Nat) yX1_init ∈ gT := gT_t (List.mem_of_getElem? (i := 306) (by decide +kernel)) (by decide +kernel)
theorem tw_307 : Cond.instanceMethod yX1_init ∈ gT := gT_t (List.mem_of_getElem? (i := 307) (by decide +kernel)) (by decide +kernel)
theorem tw_308 : Cond.code yX1_init cX1_init 3 none ∈ gT := gT_t (List.mem_of_getElem? (i := 308) (by decide +kernel)) (by decide +kernel)
theorem tw_309 : Cond.methodLink RX1 (5 : Nat) (⟨"java/lang/Object", "<init>", "()V"⟩ : MethodName) ∈ gT := gT_t (List.mem_of_getElem? (i := 309) (by decide +kernel)) (by decide +kernel)
theorem tw_310 : Cond.classLink RX1 (11 : Nat) RX8 ∈ gT := gT_t (List.mem_of_getElem? (i := 310) (by decide +kernel)) (by decide +kernel)
theorem tw_312 : Cond.methodLink RX1 (24 : Nat) yX8_init ∈ gT := gT_t (List.mem_of_getElem? (i := 312) (by decide +kernel)) (by decide +kernel)
theorem tw_313 : Cond.fieldLink RX1 (13 : Nat) "WonderParcels$History" "worlds" "[LWonderParcels$World;" ∈ gT := gT_t (List.mem_of_getElem? (i := 313) (by decide +kernel)) (by decide +kernel)
theorem tw_314 : Cond.fieldLink RX1 (17 : Nat) "WonderParcels$History" "next" "I" ∈ gT := gT_t (List.mem_of_getElem? (i := 314) (by decide +kernel)) (by decide +kernel)
theorem tw_315 : Cond.fieldLink RX1 (21 : Nat) "WonderParcels$History" "kept" "I" ∈ gT := gT_t (List.mem_of_getElem? (i := 315) (by decide +kernel)) (by decide +kernel)
theorem tw_323 : Cond.classLink RX9 (79 : Nat) RX2 ∈ gT := gT_t (List.mem_of_getElem? (i := 323) (by decide +kernel)) (by decide +kernel)
theorem tw_325 : Cond.instantiable RX2 (3 : Nat) ∈ gT := gT_t (List.mem_of_getElem? (i := 325) (by decide +kernel)) (by decide +kernel)
theorem tw_326 : Cond.methodLink RX9 (81 : Nat) yX2_init ∈ gT := gT_t (List.mem_of_getElem? (i := 326) (by decide +kernel)) (by decide +kernel)
theorem tw_327 : Cond.instanceMethod yX2_init ∈ gT := gT_t (List.mem_of_getElem? (i := 327) (by decide +kernel)) (by decide +kernel)
theorem tw_328 : Cond.code yX2_init cX2_init 2 none ∈ gT := gT_t (List.mem_of_getElem? (i := 328) (by decide +kernel)) (by decide +kernel)
theorem tw_329 : Cond.methodLink RX2 (1 : Nat) (⟨"java/lang/Object", "<init>", "()V"⟩ : MethodName) ∈ gT := gT_t (List.mem_of_getElem? (i := 329) (by decide +kernel)) (by decide +kernel)
theorem tw_330 : Cond.classLink RX2 (17 : Nat) RX8 ∈ gT := gT_t (List.mem_of_getElem? (i := 330) (by decide +kernel)) (by decide +kernel)
theorem tw_331 : Cond.methodLink RX2 (19 : Nat) yX8_init ∈ gT := gT_t (List.mem_of_getElem? (i := 331) (by decide +kernel)) (by decide +kernel)
theorem tw_332 : Cond.fieldLink RX2 (22 : Nat) "WonderParcels$Image" "world" "LWonderParcels$World;" ∈ gT := gT_t (List.mem_of_getElem? (i := 332) (by decide +kernel)) (by decide +kernel)
theorem tw_334 : Cond.fieldLink RX2 (7 : Nat) "WonderParcels$Image" "sentence" "LWonderParcels$Sentence;" ∈ gT := gT_t (List.mem_of_getElem? (i := 334) (by decide +kernel)) (by decide +kernel)
theorem tw_336 : Cond.fieldLink RX2 (13 : Nat) "WonderParcels$Image" "taken" "Z" ∈ gT := gT_t (List.mem_of_getElem? (i := 336) (by decide +kernel)) (by decide +kernel)
theorem tw_345 : Cond.methodLink RX9 (86 : Nat) yJ7_fill_53178 ∈ gT := gT_t (List.mem_of_getElem? (i := 345) (by decide +kernel)) (by decide +kernel)
theorem tw_346 : Cond.fieldLink RX9 (10 : Nat) "WonderParcels" "tape" "LWonderParcels$Tape;" ∈ gT := gT_t (List.mem_of_getElem? (i := 346) (by decide +kernel)) (by decide +kernel)
theorem tw_347 : Cond.fieldLink RX9 (65 : Nat) "WonderParcels" "world" "LWonderParcels$World;" ∈ gT := gT_t (List.mem_of_getElem? (i := 347) (by decide +kernel)) (by decide +kernel)
theorem tw_348 : Cond.fieldLink RX9 (69 : Nat) "WonderParcels" "trial" "LWonderParcels$World;" ∈ gT := gT_t (List.mem_of_getElem? (i := 348) (by decide +kernel)) (by decide +kernel)
theorem tw_349 : Cond.fieldLink RX9 (75 : Nat) "WonderParcels" "history" "LWonderParcels$History;" ∈ gT := gT_t (List.mem_of_getElem? (i := 349) (by decide +kernel)) (by decide +kernel)
theorem tw_350 : Cond.fieldLink RX9 (82 : Nat) "WonderParcels" "images" "[LWonderParcels$Image;" ∈ gT := gT_t (List.mem_of_getElem? (i := 350) (by decide +kernel)) (by decide +kernel)
theorem tw_352 : Cond.fieldLink RX9 (19 : Nat) "WonderParcels" "book" "LWonderParcels$Book;" ∈ gT := gT_t (List.mem_of_getElem? (i := 352) (by decide +kernel)) (by decide +kernel)
theorem tw_353 : Cond.fieldLink RX9 (23 : Nat) "WonderParcels" "bookTold" "[I" ∈ gT := gT_t (List.mem_of_getElem? (i := 353) (by decide +kernel)) (by decide +kernel)
theorem tw_354 : Cond.fieldLink RX9 (30 : Nat) "WonderParcels" "fewRooms" "LWonderParcels$Rooms;" ∈ gT := gT_t (List.mem_of_getElem? (i := 354) (by decide +kernel)) (by decide +kernel)
theorem tw_355 : Cond.fieldLink RX9 (34 : Nat) "WonderParcels" "seatsAtRest" "[I" ∈ gT := gT_t (List.mem_of_getElem? (i := 355) (by decide +kernel)) (by decide +kernel)
theorem tw_356 : Cond.fieldLink RX9 (40 : Nat) "WonderParcels" "latestTag" "LWonderParcels$Tag;" ∈ gT := gT_t (List.mem_of_getElem? (i := 356) (by decide +kernel)) (by decide +kernel)
theorem tw_357 : Cond.fieldLink RX9 (44 : Nat) "WonderParcels" "latestFault" "I" ∈ gT := gT_t (List.mem_of_getElem? (i := 357) (by decide +kernel)) (by decide +kernel)
theorem tw_358 : Cond.fieldLink RX9 (48 : Nat) "WonderParcels" "whoWouldSit" "I" ∈ gT := gT_t (List.mem_of_getElem? (i := 358) (by decide +kernel)) (by decide +kernel)
theorem tw_359 : Cond.fieldLink RX9 (51 : Nat) "WonderParcels" "whoSurely" "I" ∈ gT := gT_t (List.mem_of_getElem? (i := 359) (by decide +kernel)) (by decide +kernel)
theorem tw_360 : Cond.fieldLink RX9 (54 : Nat) "WonderParcels" "whomToAsk" "I" ∈ gT := gT_t (List.mem_of_getElem? (i := 360) (by decide +kernel)) (by decide +kernel)
theorem tw_424 : Cond.methodLink RX7 (50 : Nat) yX7_pass ∈ gT := gT_t (List.mem_of_getElem? (i := 424) (by decide +kernel)) (by decide +kernel)
theorem tw_425 : Cond.instanceMethod yX7_pass ∈ gT := gT_t (List.mem_of_getElem? (i := 425) (by decide +kernel)) (by decide +kernel)
theorem tw_426 : Cond.selects RX7 yX7_pass yX7_pass ∈ gT := gT_t (List.mem_of_getElem? (i := 426) (by decide +kernel)) (by decide +kernel)
theorem tw_427 : Cond.code yX7_pass cX7_pass 2 none ∈ gT := gT_t (List.mem_of_getElem? (i := 427) (by decide +kernel)) (by decide +kernel)
theorem tw_485 : Cond.methodLink RX8 (62 : Nat) yJ9_min_7cf53 ∈ gT := gT_t (List.mem_of_getElem? (i := 485) (by decide +kernel)) (by decide +kernel)
theorem tw_486 : Cond.static yJ9_min_7cf53 ∈ gT := gT_t (List.mem_of_getElem? (i := 486) (by decide +kernel)) (by decide +kernel)
theorem tw_487 : Cond.code yJ9_min_7cf53 cJ9_min_7cf53 2 (some .int) ∈ gT := gT_t (List.mem_of_getElem? (i := 487) (by decide +kernel)) (by decide +kernel)
theorem tw_488 : Cond.methodLink RX8 (68 : Nat) yJ9_max_7cf53 ∈ gT := gT_t (List.mem_of_getElem? (i := 488) (by decide +kernel)) (by decide +kernel)
theorem tw_489 : Cond.static yJ9_max_7cf53 ∈ gT := gT_t (List.mem_of_getElem? (i := 489) (by decide +kernel)) (by decide +kernel)
theorem tw_490 : Cond.code yJ9_max_7cf53 cJ9_max_7cf53 2 (some .int) ∈ gT := gT_t (List.mem_of_getElem? (i := 490) (by decide +kernel)) (by decide +kernel)
theorem tw_522 : Cond.instanceMethod yX8_takeFrom ∈ gT := gT_t (List.mem_of_getElem? (i := 522) (by decide +kernel)) (by decide +kernel)
theorem tw_523 : Cond.selects RX8 yX8_takeFrom yX8_takeFrom ∈ gT := gT_t (List.mem_of_getElem? (i := 523) (by decide +kernel)) (by decide +kernel)
theorem tw_524 : Cond.code yX8_takeFrom cX8_takeFrom 2 none ∈ gT := gT_t (List.mem_of_getElem? (i := 524) (by decide +kernel)) (by decide +kernel)
theorem tw_525 : Cond.methodLink RX8 (56 : Nat) (⟨"java/lang/System", "arraycopy", "(Ljava/lang/Object;ILjava/lang/Object;II)V"⟩ : MethodName) ∈ gT := gT_t (List.mem_of_getElem? (i := 525) (by decide +kernel)) (by decide +kernel)
theorem tw_526 : Cond.static (⟨RJ10, "arraycopy", "(Ljava/lang/Object;ILjava/lang/Object;II)V"⟩ : MethodName) ∈ gT := gT_t (List.mem_of_getElem? (i := 526) (by decide +kernel)) (by decide +kernel)
theorem tw_527 : Cond.native (⟨RJ10, "arraycopy", "(Ljava/lang/Object;ILjava/lang/Object;II)V"⟩ : MethodName) ∈ gT := gT_t (List.mem_of_getElem? (i := 527) (by decide +kernel)) (by decide +kernel)
theorem tw_610 : Cond.methodLink RX1 (27 : Nat) yX8_takeFrom ∈ gT := gT_t (List.mem_of_getElem? (i := 610) (by decide +kernel)) (by decide +kernel)
theorem tw_623 : Cond.methodLink RX1 (31 : Nat) yJ9_min_7cf53 ∈ gT := gT_t (List.mem_of_getElem? (i := 623) (by decide +kernel)) (by decide +kernel)
theorem tw_681 : Cond.methodLink RX8 (102 : Nat) yX8_daysLeft ∈ gT := gT_t (List.mem_of_getElem? (i := 681) (by decide +kernel)) (by decide +kernel)
theorem tw_682 : Cond.instanceMethod yX8_daysLeft ∈ gT := gT_t (List.mem_of_getElem? (i := 682) (by decide +kernel)) (by decide +kernel)
theorem tw_683 : Cond.selects RX8 yX8_daysLeft yX8_daysLeft ∈ gT := gT_t (List.mem_of_getElem? (i := 683) (by decide +kernel)) (by decide +kernel)
theorem tw_684 : Cond.code yX8_daysLeft cX8_daysLeft 1 (some .int) ∈ gT := gT_t (List.mem_of_getElem? (i := 684) (by decide +kernel)) (by decide +kernel)
theorem tw_685 : Cond.methodLink RX8 (106 : Nat) yX8_goDay ∈ gT := gT_t (List.mem_of_getElem? (i := 685) (by decide +kernel)) (by decide +kernel)
theorem tw_687 : Cond.instanceMethod yX8_goDay ∈ gT := gT_t (List.mem_of_getElem? (i := 687) (by decide +kernel)) (by decide +kernel)
theorem tw_688 : Cond.code yX8_goDay cX8_goDay 2 none ∈ gT := gT_t (List.mem_of_getElem? (i := 688) (by decide +kernel)) (by decide +kernel)
theorem tw_1822 : Cond.fieldLink RJ0 (9 : Nat) "java/lang/String" "value" "[B" ∈ gT := gT_t (List.mem_of_getElem? (i := 1822) (by decide +kernel)) (by decide +kernel)
theorem tw_1823 : Cond.fieldLink RJ0 (15 : Nat) "java/lang/String" "coder" "B" ∈ gT := gT_t (List.mem_of_getElem? (i := 1823) (by decide +kernel)) (by decide +kernel)
theorem tn_138 : Cond.methodLinkNest RX9 (18 : Nat) yX0_init "WonderParcels" ∈ nW := nW_t (List.mem_of_getElem? (i := 138) (by decide +kernel)) (by decide +kernel)
theorem tn_179 : Cond.methodLinkNest RX9 (39 : Nat) yX6_init "WonderParcels" ∈ nW := nW_t (List.mem_of_getElem? (i := 179) (by decide +kernel)) (by decide +kernel)
theorem tn_194 : Cond.methodLinkNest RX9 (59 : Nat) yX3_init "WonderParcels" ∈ nW := nW_t (List.mem_of_getElem? (i := 194) (by decide +kernel)) (by decide +kernel)
theorem tn_203 : Cond.fieldLinkNest RX8 (74 : Nat) "WonderParcels$Post" "many" "[I" "WonderParcels" ∈ nW := nW_t (List.mem_of_getElem? (i := 203) (by decide +kernel)) (by decide +kernel)
theorem ts_13 : Cond.selects RX8 yX8_goDay yX8_goDay ∈ gT := gT_s (by decide +kernel) (by decide +kernel)
end
section
theorem dJ0_charAt_5068e_0 : decode cJ0_charAt_5068e 0 = .ok (.aload_n 0, 1) := by decide +kernel
theorem dJ0_charAt_5068e_1 : decode cJ0_charAt_5068e 1 = .ok (.invokevirtual 492, 3) := by decide +kernel
theorem dJ0_charAt_5068e_4 : decode cJ0_charAt_5068e 4 = .ok (.ifCond .eq 12, 3) := by decide +kernel
theorem dJ0_charAt_5068e_7 : decode cJ0_charAt_5068e 7 = .ok (.aload_n 0, 1) := by decide +kernel
theorem dJ0_charAt_5068e_8 : decode cJ0_charAt_5068e 8 = .ok (.getfield 9, 3) := by decide +kernel
theorem dJ0_charAt_5068e_11 : decode cJ0_charAt_5068e 11 = .ok (.iload_n 1, 1) := by decide +kernel
theorem dJ0_charAt_5068e_12 : decode cJ0_charAt_5068e 12 = .ok (.invokestatic 495, 3) := by decide +kernel
theorem dJ0_charAt_5068e_15 : decode cJ0_charAt_5068e 15 = .ok (.ireturn, 1) := by decide +kernel
theorem dJ0_checkIndex_df160_0 : decode cJ0_checkIndex_df160 0 = .ok (.iload_n 0, 1) := by decide +kernel
theorem dJ0_checkIndex_df160_1 : decode cJ0_checkIndex_df160 1 = .ok (.iload_n 1, 1) := by decide +kernel
theorem dJ0_checkIndex_df160_2 : decode cJ0_checkIndex_df160 2 = .ok (.getstatic 1053, 3) := by decide +kernel
theorem dJ0_checkIndex_df160_5 : decode cJ0_checkIndex_df160 5 = .ok (.invokestatic 1059, 3) := by decide +kernel
theorem dJ0_checkIndex_df160_8 : decode cJ0_checkIndex_df160 8 = .ok (.pop, 1) := by decide +kernel
theorem dJ0_checkIndex_df160_9 : decode cJ0_checkIndex_df160 9 = .ok (.return_, 1) := by decide +kernel
theorem dJ0_coder_7d493_0 : decode cJ0_coder_7d493 0 = .ok (.getstatic 38, 3) := by decide +kernel
theorem dJ0_coder_7d493_3 : decode cJ0_coder_7d493 3 = .ok (.ifCond .eq 10, 3) := by decide +kernel
theorem dJ0_coder_7d493_6 : decode cJ0_coder_7d493 6 = .ok (.aload_n 0, 1) := by decide +kernel
theorem dJ0_coder_7d493_7 : decode cJ0_coder_7d493 7 = .ok (.getfield 15, 3) := by decide +kernel
theorem dJ0_coder_7d493_10 : decode cJ0_coder_7d493 10 = .ok (.goto 4, 3) := by decide +kernel
theorem dJ0_coder_7d493_14 : decode cJ0_coder_7d493 14 = .ok (.ireturn, 1) := by decide +kernel
theorem dJ0_isLatin1_aae02_0 : decode cJ0_isLatin1_aae02 0 = .ok (.getstatic 38, 3) := by decide +kernel
theorem dJ0_isLatin1_aae02_3 : decode cJ0_isLatin1_aae02 3 = .ok (.ifCond .eq 14, 3) := by decide +kernel
theorem dJ0_isLatin1_aae02_6 : decode cJ0_isLatin1_aae02 6 = .ok (.aload_n 0, 1) := by decide +kernel
theorem dJ0_isLatin1_aae02_7 : decode cJ0_isLatin1_aae02 7 = .ok (.getfield 15, 3) := by decide +kernel
theorem dJ0_isLatin1_aae02_10 : decode cJ0_isLatin1_aae02 10 = .ok (.ifCond .ne 7, 3) := by decide +kernel
theorem dJ0_isLatin1_aae02_13 : decode cJ0_isLatin1_aae02 13 = .ok (.iconst 1, 1) := by decide +kernel
theorem dJ0_isLatin1_aae02_14 : decode cJ0_isLatin1_aae02 14 = .ok (.goto 4, 3) := by decide +kernel
theorem dJ0_isLatin1_aae02_18 : decode cJ0_isLatin1_aae02 18 = .ok (.ireturn, 1) := by decide +kernel
theorem dJ0_length_8abf5_0 : decode cJ0_length_8abf5 0 = .ok (.aload_n 0, 1) := by decide +kernel
theorem dJ0_length_8abf5_1 : decode cJ0_length_8abf5 1 = .ok (.getfield 9, 3) := by decide +kernel
theorem dJ0_length_8abf5_4 : decode cJ0_length_8abf5 4 = .ok (.arraylength, 1) := by decide +kernel
theorem dJ0_length_8abf5_5 : decode cJ0_length_8abf5 5 = .ok (.aload_n 0, 1) := by decide +kernel
theorem dJ0_length_8abf5_6 : decode cJ0_length_8abf5 6 = .ok (.invokevirtual 335, 3) := by decide +kernel
theorem dJ0_length_8abf5_9 : decode cJ0_length_8abf5 9 = .ok (.ishr, 1) := by decide +kernel
theorem dJ0_length_8abf5_10 : decode cJ0_length_8abf5 10 = .ok (.ireturn, 1) := by decide +kernel
theorem dJ1_charAt_3b067_0 : decode cJ1_charAt_3b067 0 = .ok (.iload_n 1, 1) := by decide +kernel
theorem dJ1_charAt_3b067_1 : decode cJ1_charAt_3b067 1 = .ok (.aload_n 0, 1) := by decide +kernel
theorem dJ1_charAt_3b067_2 : decode cJ1_charAt_3b067 2 = .ok (.arraylength, 1) := by decide +kernel
theorem dJ1_charAt_3b067_3 : decode cJ1_charAt_3b067 3 = .ok (.invokestatic 9, 3) := by decide +kernel
theorem dJ1_charAt_3b067_6 : decode cJ1_charAt_3b067 6 = .ok (.aload_n 0, 1) := by decide +kernel
theorem dJ1_charAt_3b067_7 : decode cJ1_charAt_3b067 7 = .ok (.iload_n 1, 1) := by decide +kernel
theorem dJ1_charAt_3b067_8 : decode cJ1_charAt_3b067 8 = .ok (.baload, 1) := by decide +kernel
theorem dJ1_charAt_3b067_9 : decode cJ1_charAt_3b067 9 = .ok (.sipush 255, 3) := by decide +kernel
theorem dJ1_charAt_3b067_12 : decode cJ1_charAt_3b067 12 = .ok (.iand, 1) := by decide +kernel
theorem dJ1_charAt_3b067_13 : decode cJ1_charAt_3b067 13 = .ok (.i2c, 1) := by decide +kernel
theorem dJ1_charAt_3b067_14 : decode cJ1_charAt_3b067 14 = .ok (.ireturn, 1) := by decide +kernel
theorem dJ3_checkIndex_8e157_0 : decode cJ3_checkIndex_8e157 0 = .ok (.iload_n 0, 1) := by decide +kernel
theorem dJ3_checkIndex_8e157_1 : decode cJ3_checkIndex_8e157 1 = .ok (.ifCond .lt 8, 3) := by decide +kernel
theorem dJ3_checkIndex_8e157_4 : decode cJ3_checkIndex_8e157 4 = .ok (.iload_n 0, 1) := by decide +kernel
theorem dJ3_checkIndex_8e157_5 : decode cJ3_checkIndex_8e157 5 = .ok (.iload_n 1, 1) := by decide +kernel
theorem dJ3_checkIndex_8e157_6 : decode cJ3_checkIndex_8e157 6 = .ok (.if_icmp .lt 10, 3) := by decide +kernel
theorem dJ3_checkIndex_8e157_16 : decode cJ3_checkIndex_8e157 16 = .ok (.iload_n 0, 1) := by decide +kernel
theorem dJ3_checkIndex_8e157_17 : decode cJ3_checkIndex_8e157 17 = .ok (.ireturn, 1) := by decide +kernel
theorem dJ7_fill_53178_0 : decode cJ7_fill_53178 0 = .ok (.iconst 0, 1) := by decide +kernel
theorem dJ7_fill_53178_1 : decode cJ7_fill_53178 1 = .ok (.istore_n 2, 1) := by decide +kernel
theorem dJ7_fill_53178_2 : decode cJ7_fill_53178 2 = .ok (.aload_n 0, 1) := by decide +kernel
theorem dJ7_fill_53178_3 : decode cJ7_fill_53178 3 = .ok (.arraylength, 1) := by decide +kernel
theorem dJ7_fill_53178_4 : decode cJ7_fill_53178 4 = .ok (.istore_n 3, 1) := by decide +kernel
theorem dJ7_fill_53178_5 : decode cJ7_fill_53178 5 = .ok (.iload_n 2, 1) := by decide +kernel
theorem dJ7_fill_53178_6 : decode cJ7_fill_53178 6 = .ok (.iload_n 3, 1) := by decide +kernel
theorem dJ7_fill_53178_7 : decode cJ7_fill_53178 7 = .ok (.if_icmp .ge 13, 3) := by decide +kernel
theorem dJ7_fill_53178_10 : decode cJ7_fill_53178 10 = .ok (.aload_n 0, 1) := by decide +kernel
theorem dJ7_fill_53178_11 : decode cJ7_fill_53178 11 = .ok (.iload_n 2, 1) := by decide +kernel
theorem dJ7_fill_53178_12 : decode cJ7_fill_53178 12 = .ok (.iload_n 1, 1) := by decide +kernel
theorem dJ7_fill_53178_13 : decode cJ7_fill_53178 13 = .ok (.iastore, 1) := by decide +kernel
theorem dJ7_fill_53178_14 : decode cJ7_fill_53178 14 = .ok (.iinc 2 1, 3) := by decide +kernel
theorem dJ7_fill_53178_17 : decode cJ7_fill_53178 17 = .ok (.goto (-12), 3) := by decide +kernel
theorem dJ7_fill_53178_20 : decode cJ7_fill_53178 20 = .ok (.return_, 1) := by decide +kernel
theorem dX0_init_0 : decode cX0_init 0 = .ok (.aload_n 0, 1) := by decide +kernel
theorem dX0_init_1 : decode cX0_init 1 = .ok (.invokespecial 3, 3) := by decide +kernel
theorem dX0_init_4 : decode cX0_init 4 = .ok (.aload_n 0, 1) := by decide +kernel
theorem dX0_init_5 : decode cX0_init 5 = .ok (.bipush 40, 2) := by decide +kernel
theorem dX0_init_7 : decode cX0_init 7 = .ok (.newarray .int, 2) := by decide +kernel
theorem dX0_init_9 : decode cX0_init 9 = .ok (.putfield 11, 3) := by decide +kernel
theorem dX0_init_12 : decode cX0_init 12 = .ok (.aload_n 0, 1) := by decide +kernel
theorem dX0_init_13 : decode cX0_init 13 = .ok (.bipush 40, 2) := by decide +kernel
theorem dX0_init_15 : decode cX0_init 15 = .ok (.newarray .int, 2) := by decide +kernel
theorem dX0_init_17 : decode cX0_init 17 = .ok (.putfield 15, 3) := by decide +kernel
theorem dX0_init_20 : decode cX0_init 20 = .ok (.aload_n 0, 1) := by decide +kernel
theorem dX0_init_21 : decode cX0_init 21 = .ok (.bipush 40, 2) := by decide +kernel
theorem dX0_init_23 : decode cX0_init 23 = .ok (.newarray .int, 2) := by decide +kernel
theorem dX0_init_25 : decode cX0_init 25 = .ok (.putfield 18, 3) := by decide +kernel
theorem dX0_init_28 : decode cX0_init 28 = .ok (.aload_n 0, 1) := by decide +kernel
theorem dX0_init_29 : decode cX0_init 29 = .ok (.iconst 0, 1) := by decide +kernel
theorem dX0_init_30 : decode cX0_init 30 = .ok (.putfield 21, 3) := by decide +kernel
theorem dX0_init_33 : decode cX0_init 33 = .ok (.aload_n 0, 1) := by decide +kernel
theorem dX0_init_34 : decode cX0_init 34 = .ok (.iconst 0, 1) := by decide +kernel
theorem dX0_init_35 : decode cX0_init 35 = .ok (.putfield 25, 3) := by decide +kernel
theorem dX0_init_38 : decode cX0_init 38 = .ok (.return_, 1) := by decide +kernel
theorem dX1_forget_0 : decode cX1_forget 0 = .ok (.aload_n 0, 1) := by decide +kernel
theorem dX1_forget_1 : decode cX1_forget 1 = .ok (.iconst 0, 1) := by decide +kernel
theorem dX1_forget_2 : decode cX1_forget 2 = .ok (.putfield 21, 3) := by decide +kernel
theorem dX1_forget_5 : decode cX1_forget 5 = .ok (.return_, 1) := by decide +kernel
theorem dX1_giveBack_0 : decode cX1_giveBack 0 = .ok (.aload_n 0, 1) := by decide +kernel
theorem dX1_giveBack_1 : decode cX1_giveBack 1 = .ok (.getfield 21, 3) := by decide +kernel
theorem dX1_giveBack_4 : decode cX1_giveBack 4 = .ok (.ifCond .ne 5, 3) := by decide +kernel
theorem dX1_giveBack_7 : decode cX1_giveBack 7 = .ok (.iconst (-1), 1) := by decide +kernel
theorem dX1_giveBack_8 : decode cX1_giveBack 8 = .ok (.ireturn, 1) := by decide +kernel
theorem dX1_init_0 : decode cX1_init 0 = .ok (.aload_n 0, 1) := by decide +kernel
theorem dX1_init_1 : decode cX1_init 1 = .ok (.invokespecial 5, 3) := by decide +kernel
theorem dX1_init_4 : decode cX1_init 4 = .ok (.aload_n 0, 1) := by decide +kernel
theorem dX1_init_5 : decode cX1_init 5 = .ok (.bipush 9, 2) := by decide +kernel
theorem dX1_init_7 : decode cX1_init 7 = .ok (.anewarray 11, 3) := by decide +kernel
theorem dX1_init_10 : decode cX1_init 10 = .ok (.putfield 13, 3) := by decide +kernel
theorem dX1_init_13 : decode cX1_init 13 = .ok (.aload_n 0, 1) := by decide +kernel
theorem dX1_init_14 : decode cX1_init 14 = .ok (.iconst 0, 1) := by decide +kernel
theorem dX1_init_15 : decode cX1_init 15 = .ok (.putfield 17, 3) := by decide +kernel
theorem dX1_init_18 : decode cX1_init 18 = .ok (.aload_n 0, 1) := by decide +kernel
theorem dX1_init_19 : decode cX1_init 19 = .ok (.iconst 0, 1) := by decide +kernel
theorem dX1_init_20 : decode cX1_init 20 = .ok (.putfield 21, 3) := by decide +kernel
theorem dX1_init_23 : decode cX1_init 23 = .ok (.iconst 0, 1) := by decide +kernel
theorem dX1_init_24 : decode cX1_init 24 = .ok (.istore_n 2, 1) := by decide +kernel
theorem dX1_init_25 : decode cX1_init 25 = .ok (.iload_n 2, 1) := by decide +kernel
theorem dX1_init_26 : decode cX1_init 26 = .ok (.bipush 9, 2) := by decide +kernel
theorem dX1_init_28 : decode cX1_init 28 = .ok (.if_icmp .ge 23, 3) := by decide +kernel
theorem dX1_init_31 : decode cX1_init 31 = .ok (.aload_n 0, 1) := by decide +kernel
theorem dX1_init_32 : decode cX1_init 32 = .ok (.getfield 13, 3) := by decide +kernel
theorem dX1_init_35 : decode cX1_init 35 = .ok (.iload_n 2, 1) := by decide +kernel
theorem dX1_init_36 : decode cX1_init 36 = .ok (.new 11, 3) := by decide +kernel
theorem dX1_init_39 : decode cX1_init 39 = .ok (.dup, 1) := by decide +kernel
theorem dX1_init_40 : decode cX1_init 40 = .ok (.aload_n 1, 1) := by decide +kernel
theorem dX1_init_41 : decode cX1_init 41 = .ok (.invokespecial 24, 3) := by decide +kernel
theorem dX1_init_44 : decode cX1_init 44 = .ok (.aastore, 1) := by decide +kernel
theorem dX1_init_45 : decode cX1_init 45 = .ok (.iinc 2 1, 3) := by decide +kernel
theorem dX1_init_48 : decode cX1_init 48 = .ok (.goto (-23), 3) := by decide +kernel
theorem dX1_init_51 : decode cX1_init 51 = .ok (.return_, 1) := by decide +kernel
theorem dX1_keep_0 : decode cX1_keep 0 = .ok (.aload_n 0, 1) := by decide +kernel
theorem dX1_keep_1 : decode cX1_keep 1 = .ok (.aload_n 0, 1) := by decide +kernel
theorem dX1_keep_2 : decode cX1_keep 2 = .ok (.getfield 17, 3) := by decide +kernel
theorem dX1_keep_5 : decode cX1_keep 5 = .ok (.iconst 1, 1) := by decide +kernel
theorem dX1_keep_6 : decode cX1_keep 6 = .ok (.iadd, 1) := by decide +kernel
theorem dX1_keep_7 : decode cX1_keep 7 = .ok (.bipush 9, 2) := by decide +kernel
theorem dX1_keep_9 : decode cX1_keep 9 = .ok (.irem, 1) := by decide +kernel
theorem dX1_keep_10 : decode cX1_keep 10 = .ok (.putfield 17, 3) := by decide +kernel
theorem dX1_keep_13 : decode cX1_keep 13 = .ok (.aload_n 0, 1) := by decide +kernel
theorem dX1_keep_14 : decode cX1_keep 14 = .ok (.bipush 8, 2) := by decide +kernel
theorem dX1_keep_16 : decode cX1_keep 16 = .ok (.aload_n 0, 1) := by decide +kernel
theorem dX1_keep_17 : decode cX1_keep 17 = .ok (.getfield 21, 3) := by decide +kernel
theorem dX1_keep_20 : decode cX1_keep 20 = .ok (.iconst 1, 1) := by decide +kernel
theorem dX1_keep_21 : decode cX1_keep 21 = .ok (.iadd, 1) := by decide +kernel
theorem dX1_keep_22 : decode cX1_keep 22 = .ok (.invokestatic 31, 3) := by decide +kernel
theorem dX1_keep_25 : decode cX1_keep 25 = .ok (.putfield 21, 3) := by decide +kernel
theorem dX1_keep_28 : decode cX1_keep 28 = .ok (.return_, 1) := by decide +kernel
theorem dX1_prepare_0 : decode cX1_prepare 0 = .ok (.aload_n 0, 1) := by decide +kernel
theorem dX1_prepare_1 : decode cX1_prepare 1 = .ok (.getfield 13, 3) := by decide +kernel
theorem dX1_prepare_4 : decode cX1_prepare 4 = .ok (.aload_n 0, 1) := by decide +kernel
theorem dX1_prepare_5 : decode cX1_prepare 5 = .ok (.getfield 17, 3) := by decide +kernel
theorem dX1_prepare_8 : decode cX1_prepare 8 = .ok (.aaload, 1) := by decide +kernel
theorem dX1_prepare_9 : decode cX1_prepare 9 = .ok (.aload_n 1, 1) := by decide +kernel
theorem dX1_prepare_10 : decode cX1_prepare 10 = .ok (.invokevirtual 27, 3) := by decide +kernel
theorem dX1_prepare_13 : decode cX1_prepare 13 = .ok (.return_, 1) := by decide +kernel
theorem dX2_init_0 : decode cX2_init 0 = .ok (.aload_n 0, 1) := by decide +kernel
theorem dX2_init_1 : decode cX2_init 1 = .ok (.invokespecial 1, 3) := by decide +kernel
theorem dX2_init_4 : decode cX2_init 4 = .ok (.aload_n 0, 1) := by decide +kernel
theorem dX2_init_5 : decode cX2_init 5 = .ok (.aconst_null, 1) := by decide +kernel
theorem dX2_init_6 : decode cX2_init 6 = .ok (.putfield 7, 3) := by decide +kernel
theorem dX2_init_9 : decode cX2_init 9 = .ok (.aload_n 0, 1) := by decide +kernel
theorem dX2_init_10 : decode cX2_init 10 = .ok (.iconst 0, 1) := by decide +kernel
theorem dX2_init_11 : decode cX2_init 11 = .ok (.putfield 13, 3) := by decide +kernel
theorem dX2_init_14 : decode cX2_init 14 = .ok (.aload_n 0, 1) := by decide +kernel
theorem dX2_init_15 : decode cX2_init 15 = .ok (.new 17, 3) := by decide +kernel
theorem dX2_init_18 : decode cX2_init 18 = .ok (.dup, 1) := by decide +kernel
theorem dX2_init_19 : decode cX2_init 19 = .ok (.aload_n 1, 1) := by decide +kernel
theorem dX2_init_20 : decode cX2_init 20 = .ok (.invokespecial 19, 3) := by decide +kernel
theorem dX2_init_23 : decode cX2_init 23 = .ok (.putfield 22, 3) := by decide +kernel
theorem dX2_init_26 : decode cX2_init 26 = .ok (.return_, 1) := by decide +kernel
theorem dX3_init_0 : decode cX3_init 0 = .ok (.aload_n 0, 1) := by decide +kernel
theorem dX3_init_1 : decode cX3_init 1 = .ok (.invokespecial 3, 3) := by decide +kernel
theorem dX3_init_4 : decode cX3_init 4 = .ok (.aload_n 0, 1) := by decide +kernel
theorem dX3_init_5 : decode cX3_init 5 = .ok (.getstatic 9, 3) := by decide +kernel
theorem dX3_init_8 : decode cX3_init 8 = .ok (.arraylength, 1) := by decide +kernel
theorem dX3_init_9 : decode cX3_init 9 = .ok (.bipush 8, 2) := by decide +kernel
theorem dX3_init_11 : decode cX3_init 11 = .ok (.imul, 1) := by decide +kernel
theorem dX3_init_12 : decode cX3_init 12 = .ok (.newarray .long, 2) := by decide +kernel
theorem dX3_init_14 : decode cX3_init 14 = .ok (.putfield 15, 3) := by decide +kernel
theorem dX3_init_17 : decode cX3_init 17 = .ok (.aload_n 0, 1) := by decide +kernel
theorem dX3_init_18 : decode cX3_init 18 = .ok (.getstatic 9, 3) := by decide +kernel
theorem dX3_init_21 : decode cX3_init 21 = .ok (.arraylength, 1) := by decide +kernel
theorem dX3_init_22 : decode cX3_init 22 = .ok (.newarray .int, 2) := by decide +kernel
theorem dX3_init_24 : decode cX3_init 24 = .ok (.putfield 19, 3) := by decide +kernel
theorem dX3_init_27 : decode cX3_init 27 = .ok (.aload_n 0, 1) := by decide +kernel
theorem dX3_init_28 : decode cX3_init 28 = .ok (.bipush 6, 2) := by decide +kernel
theorem dX3_init_30 : decode cX3_init 30 = .ok (.newarray .int, 2) := by decide +kernel
theorem dX3_init_32 : decode cX3_init 32 = .ok (.putfield 22, 3) := by decide +kernel
theorem dX3_init_35 : decode cX3_init 35 = .ok (.aload_n 0, 1) := by decide +kernel
theorem dX3_init_36 : decode cX3_init 36 = .ok (.bipush 6, 2) := by decide +kernel
theorem dX3_init_38 : decode cX3_init 38 = .ok (.newarray .int, 2) := by decide +kernel
theorem dX3_init_40 : decode cX3_init 40 = .ok (.putfield 25, 3) := by decide +kernel
theorem dX3_init_43 : decode cX3_init 43 = .ok (.aload_n 0, 1) := by decide +kernel
theorem dX3_init_44 : decode cX3_init 44 = .ok (.bipush 8, 2) := by decide +kernel
theorem dX3_init_46 : decode cX3_init 46 = .ok (.newarray .int, 2) := by decide +kernel
theorem dX3_init_48 : decode cX3_init 48 = .ok (.putfield 28, 3) := by decide +kernel
theorem dX3_init_51 : decode cX3_init 51 = .ok (.aload_n 0, 1) := by decide +kernel
theorem dX3_init_52 : decode cX3_init 52 = .ok (.iconst 0, 1) := by decide +kernel
theorem dX3_init_53 : decode cX3_init 53 = .ok (.putfield 31, 3) := by decide +kernel
theorem dX3_init_56 : decode cX3_init 56 = .ok (.aload_n 0, 1) := by decide +kernel
theorem dX3_init_57 : decode cX3_init 57 = .ok (.iconst 5, 1) := by decide +kernel
theorem dX3_init_58 : decode cX3_init 58 = .ok (.putfield 35, 3) := by decide +kernel
theorem dX3_init_61 : decode cX3_init 61 = .ok (.aload_n 0, 1) := by decide +kernel
theorem dX3_init_62 : decode cX3_init 62 = .ok (.iconst 0, 1) := by decide +kernel
theorem dX3_init_63 : decode cX3_init 63 = .ok (.putfield 38, 3) := by decide +kernel
theorem dX3_init_66 : decode cX3_init 66 = .ok (.aload_n 0, 1) := by decide +kernel
theorem dX3_init_67 : decode cX3_init 67 = .ok (.iconst 0, 1) := by decide +kernel
theorem dX3_init_68 : decode cX3_init 68 = .ok (.putfield 42, 3) := by decide +kernel
theorem dX3_init_71 : decode cX3_init 71 = .ok (.return_, 1) := by decide +kernel
theorem dX4_init_0 : decode cX4_init 0 = .ok (.aload_n 0, 1) := by decide +kernel
theorem dX4_init_1 : decode cX4_init 1 = .ok (.invokespecial 3, 3) := by decide +kernel
theorem dX4_init_4 : decode cX4_init 4 = .ok (.aload_n 0, 1) := by decide +kernel
theorem dX4_init_5 : decode cX4_init 5 = .ok (.bipush 6, 2) := by decide +kernel
theorem dX4_init_7 : decode cX4_init 7 = .ok (.newarray .int, 2) := by decide +kernel
theorem dX4_init_9 : decode cX4_init 9 = .ok (.putfield 9, 3) := by decide +kernel
theorem dX4_init_12 : decode cX4_init 12 = .ok (.aload_n 0, 1) := by decide +kernel
theorem dX4_init_13 : decode cX4_init 13 = .ok (.bipush 6, 2) := by decide +kernel
theorem dX4_init_15 : decode cX4_init 15 = .ok (.newarray .int, 2) := by decide +kernel
theorem dX4_init_17 : decode cX4_init 17 = .ok (.putfield 15, 3) := by decide +kernel
theorem dX4_init_20 : decode cX4_init 20 = .ok (.aload_n 0, 1) := by decide +kernel
theorem dX4_init_21 : decode cX4_init 21 = .ok (.getfield 15, 3) := by decide +kernel
theorem dX4_init_24 : decode cX4_init 24 = .ok (.iconst (-1), 1) := by decide +kernel
theorem dX4_init_25 : decode cX4_init 25 = .ok (.invokestatic 18, 3) := by decide +kernel
theorem dX4_init_28 : decode cX4_init 28 = .ok (.return_, 1) := by decide +kernel
theorem dX6_init_0 : decode cX6_init 0 = .ok (.aload_n 0, 1) := by decide +kernel
theorem dX6_init_1 : decode cX6_init 1 = .ok (.invokespecial 1, 3) := by decide +kernel
theorem dX6_init_4 : decode cX6_init 4 = .ok (.aload_n 0, 1) := by decide +kernel
theorem dX6_init_5 : decode cX6_init 5 = .ok (.bipush 26, 2) := by decide +kernel
theorem dX6_init_7 : decode cX6_init 7 = .ok (.newarray .byte, 2) := by decide +kernel
theorem dX6_init_9 : decode cX6_init 9 = .ok (.putfield 9, 3) := by decide +kernel
theorem dX6_init_12 : decode cX6_init 12 = .ok (.aload_n 0, 1) := by decide +kernel
theorem dX6_init_13 : decode cX6_init 13 = .ok (.iconst 0, 1) := by decide +kernel
theorem dX6_init_14 : decode cX6_init 14 = .ok (.putfield 13, 3) := by decide +kernel
theorem dX6_init_17 : decode cX6_init 17 = .ok (.return_, 1) := by decide +kernel
theorem dX7_at_0 : decode cX7_at 0 = .ok (.iload_n 1, 1) := by decide +kernel
theorem dX7_at_1 : decode cX7_at 1 = .ok (.ifCond .lt 24, 3) := by decide +kernel
theorem dX7_at_4 : decode cX7_at 4 = .ok (.iload_n 1, 1) := by decide +kernel
theorem dX7_at_5 : decode cX7_at 5 = .ok (.aload_n 0, 1) := by decide +kernel
theorem dX7_at_6 : decode cX7_at 6 = .ok (.getfield 19, 3) := by decide +kernel
theorem dX7_at_9 : decode cX7_at 9 = .ok (.if_icmp .ge 16, 3) := by decide +kernel
theorem dX7_at_25 : decode cX7_at 25 = .ok (.iconst (-1), 1) := by decide +kernel
theorem dX7_at_26 : decode cX7_at 26 = .ok (.ireturn, 1) := by decide +kernel
theorem dX7_goesOn_0 : decode cX7_goesOn 0 = .ok (.aload_n 0, 1) := by decide +kernel
theorem dX7_goesOn_1 : decode cX7_goesOn 1 = .ok (.getfield 53, 3) := by decide +kernel
theorem dX7_goesOn_4 : decode cX7_goesOn 4 = .ok (.ifCond .ne 15, 3) := by decide +kernel
theorem dX7_goesOn_7 : decode cX7_goesOn 7 = .ok (.aload_n 0, 1) := by decide +kernel
theorem dX7_goesOn_8 : decode cX7_goesOn 8 = .ok (.getfield 34, 3) := by decide +kernel
theorem dX7_goesOn_11 : decode cX7_goesOn 11 = .ok (.ifCond .eq 8, 3) := by decide +kernel
theorem dX7_goesOn_19 : decode cX7_goesOn 19 = .ok (.aload_n 0, 1) := by decide +kernel
theorem dX7_goesOn_20 : decode cX7_goesOn 20 = .ok (.getfield 44, 3) := by decide +kernel
theorem dX7_goesOn_23 : decode cX7_goesOn 23 = .ok (.ifCond .ne 14, 3) := by decide +kernel
theorem dX7_goesOn_26 : decode cX7_goesOn 26 = .ok (.aload_n 0, 1) := by decide +kernel
theorem dX7_goesOn_27 : decode cX7_goesOn 27 = .ok (.getfield 53, 3) := by decide +kernel
theorem dX7_goesOn_30 : decode cX7_goesOn 30 = .ok (.ifCond .eq 7, 3) := by decide +kernel
theorem dX7_goesOn_37 : decode cX7_goesOn 37 = .ok (.iconst 0, 1) := by decide +kernel
theorem dX7_goesOn_38 : decode cX7_goesOn 38 = .ok (.ireturn, 1) := by decide +kernel
theorem dX7_hasPlaceForTwenty_0 : decode cX7_hasPlaceForTwenty 0 = .ok (.aload_n 0, 1) := by decide +kernel
theorem dX7_hasPlaceForTwenty_1 : decode cX7_hasPlaceForTwenty 1 = .ok (.getfield 19, 3) := by decide +kernel
theorem dX7_hasPlaceForTwenty_4 : decode cX7_hasPlaceForTwenty 4 = .ok (.bipush 20, 2) := by decide +kernel
theorem dX7_hasPlaceForTwenty_6 : decode cX7_hasPlaceForTwenty 6 = .ok (.iadd, 1) := by decide +kernel
theorem dX7_hasPlaceForTwenty_7 : decode cX7_hasPlaceForTwenty 7 = .ok (.aload_n 0, 1) := by decide +kernel
theorem dX7_hasPlaceForTwenty_8 : decode cX7_hasPlaceForTwenty 8 = .ok (.getfield 11, 3) := by decide +kernel
theorem dX7_hasPlaceForTwenty_11 : decode cX7_hasPlaceForTwenty 11 = .ok (.arraylength, 1) := by decide +kernel
theorem dX7_hasPlaceForTwenty_12 : decode cX7_hasPlaceForTwenty 12 = .ok (.if_icmp .gt 7, 3) := by decide +kernel
theorem dX7_hasPlaceForTwenty_15 : decode cX7_hasPlaceForTwenty 15 = .ok (.iconst 1, 1) := by decide +kernel
theorem dX7_hasPlaceForTwenty_16 : decode cX7_hasPlaceForTwenty 16 = .ok (.goto 4, 3) := by decide +kernel
theorem dX7_hasPlaceForTwenty_20 : decode cX7_hasPlaceForTwenty 20 = .ok (.ireturn, 1) := by decide +kernel
theorem dX7_init_0 : decode cX7_init 0 = .ok (.aload_n 0, 1) := by decide +kernel
theorem dX7_init_1 : decode cX7_init 1 = .ok (.invokespecial 3, 3) := by decide +kernel
theorem dX7_init_4 : decode cX7_init 4 = .ok (.aload_n 0, 1) := by decide +kernel
theorem dX7_init_5 : decode cX7_init 5 = .ok (.sipush 940, 3) := by decide +kernel
theorem dX7_init_8 : decode cX7_init 8 = .ok (.newarray .byte, 2) := by decide +kernel
theorem dX7_init_10 : decode cX7_init 10 = .ok (.putfield 11, 3) := by decide +kernel
theorem dX7_init_13 : decode cX7_init 13 = .ok (.aload_n 0, 1) := by decide +kernel
theorem dX7_init_14 : decode cX7_init 14 = .ok (.bipush 28, 2) := by decide +kernel
theorem dX7_init_16 : decode cX7_init 16 = .ok (.newarray .long, 2) := by decide +kernel
theorem dX7_init_18 : decode cX7_init 18 = .ok (.putfield 15, 3) := by decide +kernel
theorem dX7_init_21 : decode cX7_init 21 = .ok (.aload_n 0, 1) := by decide +kernel
theorem dX7_init_22 : decode cX7_init 22 = .ok (.iconst 0, 1) := by decide +kernel
theorem dX7_init_23 : decode cX7_init 23 = .ok (.putfield 19, 3) := by decide +kernel
theorem dX7_init_26 : decode cX7_init 26 = .ok (.iconst 0, 1) := by decide +kernel
theorem dX7_init_27 : decode cX7_init 27 = .ok (.istore_n 1, 1) := by decide +kernel
theorem dX7_init_28 : decode cX7_init 28 = .ok (.lconst 0, 1) := by decide +kernel
theorem dX7_init_29 : decode cX7_init 29 = .ok (.lstore_n 2, 1) := by decide +kernel
theorem dX7_init_30 : decode cX7_init 30 = .ok (.iconst 0, 1) := by decide +kernel
theorem dX7_init_31 : decode cX7_init 31 = .ok (.istore 4, 2) := by decide +kernel
theorem dX7_init_33 : decode cX7_init 33 = .ok (.iload 4, 2) := by decide +kernel
theorem dX7_init_35 : decode cX7_init 35 = .ok (.ldc 23, 2) := by decide +kernel
theorem dX7_init_37 : decode cX7_init 37 = .ok (.invokevirtual 25, 3) := by decide +kernel
theorem dX7_init_40 : decode cX7_init 40 = .ok (.if_icmp .ge 58, 3) := by decide +kernel
theorem dX7_init_43 : decode cX7_init 43 = .ok (.iload_n 1, 1) := by decide +kernel
theorem dX7_init_44 : decode cX7_init 44 = .ok (.aload_n 0, 1) := by decide +kernel
theorem dX7_init_45 : decode cX7_init 45 = .ok (.getfield 15, 3) := by decide +kernel
theorem dX7_init_48 : decode cX7_init 48 = .ok (.arraylength, 1) := by decide +kernel
theorem dX7_init_49 : decode cX7_init 49 = .ok (.if_icmp .ge 49, 3) := by decide +kernel
theorem dX7_init_52 : decode cX7_init 52 = .ok (.ldc 23, 2) := by decide +kernel
theorem dX7_init_54 : decode cX7_init 54 = .ok (.iload 4, 2) := by decide +kernel
theorem dX7_init_56 : decode cX7_init 56 = .ok (.invokevirtual 30, 3) := by decide +kernel
theorem dX7_init_59 : decode cX7_init 59 = .ok (.istore 5, 2) := by decide +kernel
theorem dX7_init_61 : decode cX7_init 61 = .ok (.iload 5, 2) := by decide +kernel
theorem dX7_init_63 : decode cX7_init 63 = .ok (.bipush 32, 2) := by decide +kernel
theorem dX7_init_65 : decode cX7_init 65 = .ok (.if_icmp .ne 18, 3) := by decide +kernel
theorem dX7_init_68 : decode cX7_init 68 = .ok (.aload_n 0, 1) := by decide +kernel
theorem dX7_init_69 : decode cX7_init 69 = .ok (.getfield 15, 3) := by decide +kernel
theorem dX7_init_72 : decode cX7_init 72 = .ok (.iload_n 1, 1) := by decide +kernel
theorem dX7_init_73 : decode cX7_init 73 = .ok (.lload_n 2, 1) := by decide +kernel
theorem dX7_init_74 : decode cX7_init 74 = .ok (.lastore, 1) := by decide +kernel
theorem dX7_init_75 : decode cX7_init 75 = .ok (.lconst 0, 1) := by decide +kernel
theorem dX7_init_76 : decode cX7_init 76 = .ok (.lstore_n 2, 1) := by decide +kernel
theorem dX7_init_77 : decode cX7_init 77 = .ok (.iinc 1 1, 3) := by decide +kernel
theorem dX7_init_80 : decode cX7_init 80 = .ok (.goto 12, 3) := by decide +kernel
theorem dX7_init_83 : decode cX7_init 83 = .ok (.lload_n 2, 1) := by decide +kernel
theorem dX7_init_84 : decode cX7_init 84 = .ok (.bipush 8, 2) := by decide +kernel
theorem dX7_init_86 : decode cX7_init 86 = .ok (.lshl, 1) := by decide +kernel
theorem dX7_init_87 : decode cX7_init 87 = .ok (.iload 5, 2) := by decide +kernel
theorem dX7_init_89 : decode cX7_init 89 = .ok (.i2l, 1) := by decide +kernel
theorem dX7_init_90 : decode cX7_init 90 = .ok (.lor, 1) := by decide +kernel
theorem dX7_init_91 : decode cX7_init 91 = .ok (.lstore_n 2, 1) := by decide +kernel
theorem dX7_init_92 : decode cX7_init 92 = .ok (.iinc 4 1, 3) := by decide +kernel
theorem dX7_init_95 : decode cX7_init 95 = .ok (.goto (-62), 3) := by decide +kernel
theorem dX7_init_98 : decode cX7_init 98 = .ok (.return_, 1) := by decide +kernel
theorem dX7_pass_0 : decode cX7_pass 0 = .ok (.aload_n 0, 1) := by decide +kernel
theorem dX7_pass_1 : decode cX7_pass 1 = .ok (.getfield 44, 3) := by decide +kernel
theorem dX7_pass_4 : decode cX7_pass 4 = .ok (.ifCond .eq 4, 3) := by decide +kernel
theorem dX7_pass_8 : decode cX7_pass 8 = .ok (.aload_n 0, 1) := by decide +kernel
theorem dX7_pass_9 : decode cX7_pass 9 = .ok (.aload_n 0, 1) := by decide +kernel
theorem dX7_pass_10 : decode cX7_pass 10 = .ok (.getfield 41, 3) := by decide +kernel
theorem dX7_pass_13 : decode cX7_pass 13 = .ok (.putfield 60, 3) := by decide +kernel
theorem dX7_pass_16 : decode cX7_pass 16 = .ok (.aload_n 0, 1) := by decide +kernel
theorem dX7_pass_17 : decode cX7_pass 17 = .ok (.getfield 60, 3) := by decide +kernel
theorem dX7_pass_20 : decode cX7_pass 20 = .ok (.aload_n 0, 1) := by decide +kernel
theorem dX7_pass_21 : decode cX7_pass 21 = .ok (.getfield 38, 3) := by decide +kernel
theorem dX7_pass_24 : decode cX7_pass 24 = .ok (.if_icmp .ge 31, 3) := by decide +kernel
theorem dX7_pass_55 : decode cX7_pass 55 = .ok (.aload_n 0, 1) := by decide +kernel
theorem dX7_pass_56 : decode cX7_pass 56 = .ok (.getfield 60, 3) := by decide +kernel
theorem dX7_pass_59 : decode cX7_pass 59 = .ok (.aload_n 0, 1) := by decide +kernel
theorem dX7_pass_60 : decode cX7_pass 60 = .ok (.getfield 38, 3) := by decide +kernel
theorem dX7_pass_63 : decode cX7_pass 63 = .ok (.if_icmp .lt 17, 3) := by decide +kernel
theorem dX7_pass_66 : decode cX7_pass 66 = .ok (.aload_n 0, 1) := by decide +kernel
theorem dX7_pass_67 : decode cX7_pass 67 = .ok (.aload_n 0, 1) := by decide +kernel
theorem dX7_pass_68 : decode cX7_pass 68 = .ok (.getfield 38, 3) := by decide +kernel
theorem dX7_pass_71 : decode cX7_pass 71 = .ok (.putfield 60, 3) := by decide +kernel
theorem dX7_pass_74 : decode cX7_pass 74 = .ok (.aload_n 0, 1) := by decide +kernel
theorem dX7_pass_75 : decode cX7_pass 75 = .ok (.iconst 0, 1) := by decide +kernel
theorem dX7_pass_76 : decode cX7_pass 76 = .ok (.putfield 53, 3) := by decide +kernel
theorem dX7_pass_79 : decode cX7_pass 79 = .ok (.return_, 1) := by decide +kernel
theorem dX7_putFour_0 : decode cX7_putFour 0 = .ok (.bipush 24, 2) := by decide +kernel
theorem dX7_putFour_2 : decode cX7_putFour 2 = .ok (.istore_n 2, 1) := by decide +kernel
theorem dX7_putFour_3 : decode cX7_putFour 3 = .ok (.iload_n 2, 1) := by decide +kernel
theorem dX7_putFour_4 : decode cX7_putFour 4 = .ok (.ifCond .lt 44, 3) := by decide +kernel
theorem dX7_putFour_7 : decode cX7_putFour 7 = .ok (.aload_n 0, 1) := by decide +kernel
theorem dX7_putFour_8 : decode cX7_putFour 8 = .ok (.getfield 19, 3) := by decide +kernel
theorem dX7_putFour_11 : decode cX7_putFour 11 = .ok (.aload_n 0, 1) := by decide +kernel
theorem dX7_putFour_12 : decode cX7_putFour 12 = .ok (.getfield 11, 3) := by decide +kernel
theorem dX7_putFour_15 : decode cX7_putFour 15 = .ok (.arraylength, 1) := by decide +kernel
theorem dX7_putFour_16 : decode cX7_putFour 16 = .ok (.if_icmp .ge 32, 3) := by decide +kernel
theorem dX7_putFour_19 : decode cX7_putFour 19 = .ok (.aload_n 0, 1) := by decide +kernel
theorem dX7_putFour_20 : decode cX7_putFour 20 = .ok (.getfield 11, 3) := by decide +kernel
theorem dX7_putFour_23 : decode cX7_putFour 23 = .ok (.aload_n 0, 1) := by decide +kernel
theorem dX7_putFour_24 : decode cX7_putFour 24 = .ok (.getfield 19, 3) := by decide +kernel
theorem dX7_putFour_27 : decode cX7_putFour 27 = .ok (.iload_n 1, 1) := by decide +kernel
theorem dX7_putFour_28 : decode cX7_putFour 28 = .ok (.iload_n 2, 1) := by decide +kernel
theorem dX7_putFour_29 : decode cX7_putFour 29 = .ok (.iushr, 1) := by decide +kernel
theorem dX7_putFour_30 : decode cX7_putFour 30 = .ok (.i2b, 1) := by decide +kernel
theorem dX7_putFour_31 : decode cX7_putFour 31 = .ok (.bastore, 1) := by decide +kernel
theorem dX7_putFour_32 : decode cX7_putFour 32 = .ok (.aload_n 0, 1) := by decide +kernel
theorem dX7_putFour_33 : decode cX7_putFour 33 = .ok (.dup, 1) := by decide +kernel
theorem dX7_putFour_34 : decode cX7_putFour 34 = .ok (.getfield 19, 3) := by decide +kernel
theorem dX7_putFour_37 : decode cX7_putFour 37 = .ok (.iconst 1, 1) := by decide +kernel
theorem dX7_putFour_38 : decode cX7_putFour 38 = .ok (.iadd, 1) := by decide +kernel
theorem dX7_putFour_39 : decode cX7_putFour 39 = .ok (.putfield 19, 3) := by decide +kernel
theorem dX7_putFour_42 : decode cX7_putFour 42 = .ok (.iinc 2 (-8), 3) := by decide +kernel
theorem dX7_putFour_45 : decode cX7_putFour 45 = .ok (.goto (-42), 3) := by decide +kernel
theorem dX7_putFour_48 : decode cX7_putFour 48 = .ok (.return_, 1) := by decide +kernel
theorem dX7_refuse_0 : decode cX7_refuse 0 = .ok (.aload_n 0, 1) := by decide +kernel
theorem dX7_refuse_1 : decode cX7_refuse 1 = .ok (.getfield 44, 3) := by decide +kernel
theorem dX7_refuse_4 : decode cX7_refuse 4 = .ok (.ifCond .ne 16, 3) := by decide +kernel
theorem dX7_refuse_7 : decode cX7_refuse 7 = .ok (.aload_n 0, 1) := by decide +kernel
theorem dX7_refuse_8 : decode cX7_refuse 8 = .ok (.iload_n 1, 1) := by decide +kernel
theorem dX7_refuse_9 : decode cX7_refuse 9 = .ok (.putfield 44, 3) := by decide +kernel
theorem dX7_refuse_12 : decode cX7_refuse 12 = .ok (.aload_n 0, 1) := by decide +kernel
theorem dX7_refuse_13 : decode cX7_refuse 13 = .ok (.aload_n 0, 1) := by decide +kernel
theorem dX7_refuse_14 : decode cX7_refuse 14 = .ok (.getfield 60, 3) := by decide +kernel
theorem dX7_refuse_17 : decode cX7_refuse 17 = .ok (.putfield 47, 3) := by decide +kernel
theorem dX7_refuse_20 : decode cX7_refuse 20 = .ok (.return_, 1) := by decide +kernel
theorem dX7_sees_0 : decode cX7_sees 0 = .ok (.aload_n 0, 1) := by decide +kernel
theorem dX7_sees_1 : decode cX7_sees 1 = .ok (.getfield 44, 3) := by decide +kernel
theorem dX7_sees_4 : decode cX7_sees 4 = .ok (.ifCond .ne 15, 3) := by decide +kernel
theorem dX7_sees_19 : decode cX7_sees 19 = .ok (.iconst 0, 1) := by decide +kernel
theorem dX7_sees_20 : decode cX7_sees 20 = .ok (.ireturn, 1) := by decide +kernel
theorem dX7_startText_0 : decode cX7_startText 0 = .ok (.aload_n 0, 1) := by decide +kernel
theorem dX7_startText_1 : decode cX7_startText 1 = .ok (.aload_n 0, 1) := by decide +kernel
theorem dX7_startText_2 : decode cX7_startText 2 = .ok (.getfield 19, 3) := by decide +kernel
theorem dX7_startText_5 : decode cX7_startText 5 = .ok (.iload_n 1, 1) := by decide +kernel
theorem dX7_startText_6 : decode cX7_startText 6 = .ok (.if_icmp .le 7, 3) := by decide +kernel
theorem dX7_startText_13 : decode cX7_startText 13 = .ok (.iconst 0, 1) := by decide +kernel
theorem dX7_startText_14 : decode cX7_startText 14 = .ok (.putfield 34, 3) := by decide +kernel
theorem dX7_startText_17 : decode cX7_startText 17 = .ok (.aload_n 0, 1) := by decide +kernel
theorem dX7_startText_18 : decode cX7_startText 18 = .ok (.aload_n 0, 1) := by decide +kernel
theorem dX7_startText_19 : decode cX7_startText 19 = .ok (.getfield 34, 3) := by decide +kernel
theorem dX7_startText_22 : decode cX7_startText 22 = .ok (.ifCond .eq 7, 3) := by decide +kernel
theorem dX7_startText_29 : decode cX7_startText 29 = .ok (.aload_n 0, 1) := by decide +kernel
theorem dX7_startText_30 : decode cX7_startText 30 = .ok (.getfield 19, 3) := by decide +kernel
theorem dX7_startText_33 : decode cX7_startText 33 = .ok (.putfield 38, 3) := by decide +kernel
theorem dX7_startText_36 : decode cX7_startText 36 = .ok (.aload_n 0, 1) := by decide +kernel
theorem dX7_startText_37 : decode cX7_startText 37 = .ok (.iconst 0, 1) := by decide +kernel
theorem dX7_startText_38 : decode cX7_startText 38 = .ok (.putfield 41, 3) := by decide +kernel
theorem dX7_startText_41 : decode cX7_startText 41 = .ok (.aload_n 0, 1) := by decide +kernel
theorem dX7_startText_42 : decode cX7_startText 42 = .ok (.iconst 0, 1) := by decide +kernel
theorem dX7_startText_43 : decode cX7_startText 43 = .ok (.putfield 44, 3) := by decide +kernel
theorem dX7_startText_46 : decode cX7_startText 46 = .ok (.aload_n 0, 1) := by decide +kernel
theorem dX7_startText_47 : decode cX7_startText 47 = .ok (.iconst 0, 1) := by decide +kernel
theorem dX7_startText_48 : decode cX7_startText 48 = .ok (.putfield 47, 3) := by decide +kernel
theorem dX7_startText_51 : decode cX7_startText 51 = .ok (.aload_n 0, 1) := by decide +kernel
theorem dX7_startText_52 : decode cX7_startText 52 = .ok (.invokevirtual 50, 3) := by decide +kernel
theorem dX7_startText_55 : decode cX7_startText 55 = .ok (.return_, 1) := by decide +kernel
theorem dX8_allThatAllHave_0 : decode cX8_allThatAllHave 0 = .ok (.iconst 0, 1) := by decide +kernel
theorem dX8_allThatAllHave_1 : decode cX8_allThatAllHave 1 = .ok (.istore_n 1, 1) := by decide +kernel
theorem dX8_allThatAllHave_2 : decode cX8_allThatAllHave 2 = .ok (.iconst 0, 1) := by decide +kernel
theorem dX8_allThatAllHave_3 : decode cX8_allThatAllHave 3 = .ok (.istore_n 2, 1) := by decide +kernel
theorem dX8_allThatAllHave_4 : decode cX8_allThatAllHave 4 = .ok (.iload_n 2, 1) := by decide +kernel
theorem dX8_allThatAllHave_5 : decode cX8_allThatAllHave 5 = .ok (.aload_n 0, 1) := by decide +kernel
theorem dX8_allThatAllHave_6 : decode cX8_allThatAllHave 6 = .ok (.getfield 42, 3) := by decide +kernel
theorem dX8_allThatAllHave_9 : decode cX8_allThatAllHave 9 = .ok (.getfield 74, 3) := by decide +kernel
theorem dX8_allThatAllHave_12 : decode cX8_allThatAllHave 12 = .ok (.iconst 2, 1) := by decide +kernel
theorem dX8_allThatAllHave_13 : decode cX8_allThatAllHave 13 = .ok (.iaload, 1) := by decide +kernel
theorem dX8_allThatAllHave_14 : decode cX8_allThatAllHave 14 = .ok (.if_icmp .ge 17, 3) := by decide +kernel
theorem dX8_allThatAllHave_31 : decode cX8_allThatAllHave 31 = .ok (.iload_n 1, 1) := by decide +kernel
theorem dX8_allThatAllHave_32 : decode cX8_allThatAllHave 32 = .ok (.ireturn, 1) := by decide +kernel
theorem dX8_begin_0 : decode cX8_begin 0 = .ok (.aload_n 0, 1) := by decide +kernel
theorem dX8_begin_1 : decode cX8_begin 1 = .ok (.aload_n 1, 1) := by decide +kernel
theorem dX8_begin_2 : decode cX8_begin 2 = .ok (.putfield 42, 3) := by decide +kernel
theorem dX8_begin_5 : decode cX8_begin 5 = .ok (.aload_n 0, 1) := by decide +kernel
theorem dX8_begin_6 : decode cX8_begin 6 = .ok (.iconst 0, 1) := by decide +kernel
theorem dX8_begin_7 : decode cX8_begin 7 = .ok (.putfield 52, 3) := by decide +kernel
theorem dX8_begin_10 : decode cX8_begin 10 = .ok (.aload_n 0, 1) := by decide +kernel
theorem dX8_begin_11 : decode cX8_begin 11 = .ok (.getfield 9, 3) := by decide +kernel
theorem dX8_begin_14 : decode cX8_begin 14 = .ok (.iconst 0, 1) := by decide +kernel
theorem dX8_begin_15 : decode cX8_begin 15 = .ok (.invokestatic 46, 3) := by decide +kernel
theorem dX8_begin_18 : decode cX8_begin 18 = .ok (.aload_n 0, 1) := by decide +kernel
theorem dX8_begin_19 : decode cX8_begin 19 = .ok (.getfield 15, 3) := by decide +kernel
theorem dX8_begin_22 : decode cX8_begin 22 = .ok (.iconst 0, 1) := by decide +kernel
theorem dX8_begin_23 : decode cX8_begin 23 = .ok (.invokestatic 46, 3) := by decide +kernel
theorem dX8_begin_26 : decode cX8_begin 26 = .ok (.aload_n 0, 1) := by decide +kernel
theorem dX8_begin_27 : decode cX8_begin 27 = .ok (.getfield 18, 3) := by decide +kernel
theorem dX8_begin_30 : decode cX8_begin 30 = .ok (.iconst 0, 1) := by decide +kernel
theorem dX8_begin_31 : decode cX8_begin 31 = .ok (.invokestatic 46, 3) := by decide +kernel
theorem dX8_begin_34 : decode cX8_begin 34 = .ok (.aload_n 0, 1) := by decide +kernel
theorem dX8_begin_35 : decode cX8_begin 35 = .ok (.getfield 21, 3) := by decide +kernel
theorem dX8_begin_38 : decode cX8_begin 38 = .ok (.iconst 0, 1) := by decide +kernel
theorem dX8_begin_39 : decode cX8_begin 39 = .ok (.invokestatic 46, 3) := by decide +kernel
theorem dX8_begin_42 : decode cX8_begin 42 = .ok (.aload_n 0, 1) := by decide +kernel
theorem dX8_begin_43 : decode cX8_begin 43 = .ok (.getfield 24, 3) := by decide +kernel
theorem dX8_begin_46 : decode cX8_begin 46 = .ok (.iconst 0, 1) := by decide +kernel
theorem dX8_begin_47 : decode cX8_begin 47 = .ok (.invokestatic 46, 3) := by decide +kernel
theorem dX8_begin_50 : decode cX8_begin 50 = .ok (.aload_n 0, 1) := by decide +kernel
theorem dX8_begin_51 : decode cX8_begin 51 = .ok (.getfield 27, 3) := by decide +kernel
theorem dX8_begin_54 : decode cX8_begin 54 = .ok (.iconst 0, 1) := by decide +kernel
theorem dX8_begin_55 : decode cX8_begin 55 = .ok (.invokestatic 46, 3) := by decide +kernel
theorem dX8_begin_58 : decode cX8_begin 58 = .ok (.aload_n 0, 1) := by decide +kernel
theorem dX8_begin_59 : decode cX8_begin 59 = .ok (.getfield 30, 3) := by decide +kernel
theorem dX8_begin_62 : decode cX8_begin 62 = .ok (.iconst (-1), 1) := by decide +kernel
theorem dX8_begin_63 : decode cX8_begin 63 = .ok (.invokestatic 46, 3) := by decide +kernel
theorem dX8_begin_66 : decode cX8_begin 66 = .ok (.aload_n 0, 1) := by decide +kernel
theorem dX8_begin_67 : decode cX8_begin 67 = .ok (.getfield 33, 3) := by decide +kernel
theorem dX8_begin_70 : decode cX8_begin 70 = .ok (.iconst 0, 1) := by decide +kernel
theorem dX8_begin_71 : decode cX8_begin 71 = .ok (.invokestatic 46, 3) := by decide +kernel
theorem dX8_begin_74 : decode cX8_begin 74 = .ok (.aload_n 0, 1) := by decide +kernel
theorem dX8_begin_75 : decode cX8_begin 75 = .ok (.getfield 36, 3) := by decide +kernel
theorem dX8_begin_78 : decode cX8_begin 78 = .ok (.iconst 0, 1) := by decide +kernel
theorem dX8_begin_79 : decode cX8_begin 79 = .ok (.invokestatic 46, 3) := by decide +kernel
theorem dX8_begin_82 : decode cX8_begin 82 = .ok (.return_, 1) := by decide +kernel
theorem dX8_daysLeft_0 : decode cX8_daysLeft 0 = .ok (.iconst 0, 1) := by decide +kernel
theorem dX8_daysLeft_1 : decode cX8_daysLeft 1 = .ok (.sipush 400, 3) := by decide +kernel
theorem dX8_daysLeft_4 : decode cX8_daysLeft 4 = .ok (.aload_n 0, 1) := by decide +kernel
theorem dX8_daysLeft_5 : decode cX8_daysLeft 5 = .ok (.getfield 52, 3) := by decide +kernel
theorem dX8_daysLeft_8 : decode cX8_daysLeft 8 = .ok (.isub, 1) := by decide +kernel
theorem dX8_daysLeft_9 : decode cX8_daysLeft 9 = .ok (.invokestatic 68, 3) := by decide +kernel
theorem dX8_daysLeft_12 : decode cX8_daysLeft 12 = .ok (.ireturn, 1) := by decide +kernel
theorem dX8_goDay_0 : decode cX8_goDay 0 = .ok (.iconst 0, 1) := by decide +kernel
theorem dX8_goDay_1 : decode cX8_goDay 1 = .ok (.istore_n 1, 1) := by decide +kernel
theorem dX8_goDay_2 : decode cX8_goDay 2 = .ok (.iload_n 1, 1) := by decide +kernel
theorem dX8_goDay_3 : decode cX8_goDay 3 = .ok (.aload_n 0, 1) := by decide +kernel
theorem dX8_goDay_4 : decode cX8_goDay 4 = .ok (.getfield 42, 3) := by decide +kernel
theorem dX8_goDay_7 : decode cX8_goDay 7 = .ok (.getfield 74, 3) := by decide +kernel
theorem dX8_goDay_10 : decode cX8_goDay 10 = .ok (.iconst 2, 1) := by decide +kernel
theorem dX8_goDay_11 : decode cX8_goDay 11 = .ok (.iaload, 1) := by decide +kernel
theorem dX8_goDay_12 : decode cX8_goDay 12 = .ok (.if_icmp .ge 22, 3) := by decide +kernel
theorem dX8_goDay_34 : decode cX8_goDay 34 = .ok (.aload_n 0, 1) := by decide +kernel
theorem dX8_goDay_35 : decode cX8_goDay 35 = .ok (.dup, 1) := by decide +kernel
theorem dX8_goDay_36 : decode cX8_goDay 36 = .ok (.getfield 52, 3) := by decide +kernel
theorem dX8_goDay_39 : decode cX8_goDay 39 = .ok (.iconst 1, 1) := by decide +kernel
theorem dX8_goDay_40 : decode cX8_goDay 40 = .ok (.iadd, 1) := by decide +kernel
theorem dX8_goDay_41 : decode cX8_goDay 41 = .ok (.putfield 52, 3) := by decide +kernel
theorem dX8_goDay_44 : decode cX8_goDay 44 = .ok (.return_, 1) := by decide +kernel
theorem dX8_goDays_0 : decode cX8_goDays 0 = .ok (.iload_n 1, 1) := by decide +kernel
theorem dX8_goDays_1 : decode cX8_goDays 1 = .ok (.aload_n 0, 1) := by decide +kernel
theorem dX8_goDays_2 : decode cX8_goDays 2 = .ok (.invokevirtual 102, 3) := by decide +kernel
theorem dX8_goDays_5 : decode cX8_goDays 5 = .ok (.invokestatic 62, 3) := by decide +kernel
theorem dX8_goDays_8 : decode cX8_goDays 8 = .ok (.istore_n 2, 1) := by decide +kernel
theorem dX8_goDays_9 : decode cX8_goDays 9 = .ok (.iconst 0, 1) := by decide +kernel
theorem dX8_goDays_10 : decode cX8_goDays 10 = .ok (.istore_n 3, 1) := by decide +kernel
theorem dX8_goDays_11 : decode cX8_goDays 11 = .ok (.iload_n 3, 1) := by decide +kernel
theorem dX8_goDays_12 : decode cX8_goDays 12 = .ok (.iload_n 2, 1) := by decide +kernel
theorem dX8_goDays_13 : decode cX8_goDays 13 = .ok (.if_icmp .ge 13, 3) := by decide +kernel
theorem dX8_goDays_16 : decode cX8_goDays 16 = .ok (.aload_n 0, 1) := by decide +kernel
theorem dX8_goDays_17 : decode cX8_goDays 17 = .ok (.invokevirtual 106, 3) := by decide +kernel
theorem dX8_goDays_20 : decode cX8_goDays 20 = .ok (.iinc 3 1, 3) := by decide +kernel
theorem dX8_goDays_23 : decode cX8_goDays 23 = .ok (.goto (-12), 3) := by decide +kernel
theorem dX8_goDays_26 : decode cX8_goDays 26 = .ok (.iload_n 2, 1) := by decide +kernel
theorem dX8_goDays_27 : decode cX8_goDays 27 = .ok (.ireturn, 1) := by decide +kernel
theorem dX8_init_0 : decode cX8_init 0 = .ok (.aload_n 0, 1) := by decide +kernel
theorem dX8_init_1 : decode cX8_init 1 = .ok (.invokespecial 3, 3) := by decide +kernel
theorem dX8_init_4 : decode cX8_init 4 = .ok (.aload_n 0, 1) := by decide +kernel
theorem dX8_init_5 : decode cX8_init 5 = .ok (.bipush 36, 2) := by decide +kernel
theorem dX8_init_7 : decode cX8_init 7 = .ok (.newarray .int, 2) := by decide +kernel
theorem dX8_init_9 : decode cX8_init 9 = .ok (.putfield 9, 3) := by decide +kernel
theorem dX8_init_12 : decode cX8_init 12 = .ok (.aload_n 0, 1) := by decide +kernel
theorem dX8_init_13 : decode cX8_init 13 = .ok (.bipush 6, 2) := by decide +kernel
theorem dX8_init_15 : decode cX8_init 15 = .ok (.newarray .int, 2) := by decide +kernel
theorem dX8_init_17 : decode cX8_init 17 = .ok (.putfield 15, 3) := by decide +kernel
theorem dX8_init_20 : decode cX8_init 20 = .ok (.aload_n 0, 1) := by decide +kernel
theorem dX8_init_21 : decode cX8_init 21 = .ok (.bipush 6, 2) := by decide +kernel
theorem dX8_init_23 : decode cX8_init 23 = .ok (.newarray .int, 2) := by decide +kernel
theorem dX8_init_25 : decode cX8_init 25 = .ok (.putfield 18, 3) := by decide +kernel
theorem dX8_init_28 : decode cX8_init 28 = .ok (.aload_n 0, 1) := by decide +kernel
theorem dX8_init_29 : decode cX8_init 29 = .ok (.bipush 6, 2) := by decide +kernel
theorem dX8_init_31 : decode cX8_init 31 = .ok (.newarray .int, 2) := by decide +kernel
theorem dX8_init_33 : decode cX8_init 33 = .ok (.putfield 21, 3) := by decide +kernel
theorem dX8_init_36 : decode cX8_init 36 = .ok (.aload_n 0, 1) := by decide +kernel
theorem dX8_init_37 : decode cX8_init 37 = .ok (.bipush 6, 2) := by decide +kernel
theorem dX8_init_39 : decode cX8_init 39 = .ok (.newarray .int, 2) := by decide +kernel
theorem dX8_init_41 : decode cX8_init 41 = .ok (.putfield 24, 3) := by decide +kernel
theorem dX8_init_44 : decode cX8_init 44 = .ok (.aload_n 0, 1) := by decide +kernel
theorem dX8_init_45 : decode cX8_init 45 = .ok (.bipush 8, 2) := by decide +kernel
theorem dX8_init_47 : decode cX8_init 47 = .ok (.newarray .int, 2) := by decide +kernel
theorem dX8_init_49 : decode cX8_init 49 = .ok (.putfield 27, 3) := by decide +kernel
theorem dX8_init_52 : decode cX8_init 52 = .ok (.aload_n 0, 1) := by decide +kernel
theorem dX8_init_53 : decode cX8_init 53 = .ok (.bipush 8, 2) := by decide +kernel
theorem dX8_init_55 : decode cX8_init 55 = .ok (.newarray .int, 2) := by decide +kernel
theorem dX8_init_57 : decode cX8_init 57 = .ok (.putfield 30, 3) := by decide +kernel
theorem dX8_init_60 : decode cX8_init 60 = .ok (.aload_n 0, 1) := by decide +kernel
theorem dX8_init_61 : decode cX8_init 61 = .ok (.bipush 8, 2) := by decide +kernel
theorem dX8_init_63 : decode cX8_init 63 = .ok (.newarray .int, 2) := by decide +kernel
theorem dX8_init_65 : decode cX8_init 65 = .ok (.putfield 33, 3) := by decide +kernel
theorem dX8_init_68 : decode cX8_init 68 = .ok (.aload_n 0, 1) := by decide +kernel
theorem dX8_init_69 : decode cX8_init 69 = .ok (.bipush 8, 2) := by decide +kernel
theorem dX8_init_71 : decode cX8_init 71 = .ok (.newarray .int, 2) := by decide +kernel
theorem dX8_init_73 : decode cX8_init 73 = .ok (.putfield 36, 3) := by decide +kernel
theorem dX8_init_76 : decode cX8_init 76 = .ok (.aload_n 0, 1) := by decide +kernel
theorem dX8_init_77 : decode cX8_init 77 = .ok (.bipush 6, 2) := by decide +kernel
theorem dX8_init_79 : decode cX8_init 79 = .ok (.newarray .int, 2) := by decide +kernel
theorem dX8_init_81 : decode cX8_init 81 = .ok (.putfield 39, 3) := by decide +kernel
theorem dX8_init_84 : decode cX8_init 84 = .ok (.aload_n 0, 1) := by decide +kernel
theorem dX8_init_85 : decode cX8_init 85 = .ok (.aload_n 1, 1) := by decide +kernel
theorem dX8_init_86 : decode cX8_init 86 = .ok (.putfield 42, 3) := by decide +kernel
theorem dX8_init_89 : decode cX8_init 89 = .ok (.aload_n 0, 1) := by decide +kernel
theorem dX8_init_90 : decode cX8_init 90 = .ok (.getfield 30, 3) := by decide +kernel
theorem dX8_init_93 : decode cX8_init 93 = .ok (.iconst (-1), 1) := by decide +kernel
theorem dX8_init_94 : decode cX8_init 94 = .ok (.invokestatic 46, 3) := by decide +kernel
theorem dX8_init_97 : decode cX8_init 97 = .ok (.return_, 1) := by decide +kernel
theorem dX8_settleAll_0 : decode cX8_settleAll 0 = .ok (.iconst 1, 1) := by decide +kernel
theorem dX8_settleAll_1 : decode cX8_settleAll 1 = .ok (.istore_n 1, 1) := by decide +kernel
theorem dX8_settleAll_2 : decode cX8_settleAll 2 = .ok (.iconst 0, 1) := by decide +kernel
theorem dX8_settleAll_3 : decode cX8_settleAll 3 = .ok (.istore_n 2, 1) := by decide +kernel
theorem dX8_settleAll_4 : decode cX8_settleAll 4 = .ok (.iload_n 1, 1) := by decide +kernel
theorem dX8_settleAll_5 : decode cX8_settleAll 5 = .ok (.ifCond .eq 70, 3) := by decide +kernel
theorem dX8_settleAll_8 : decode cX8_settleAll 8 = .ok (.iload_n 2, 1) := by decide +kernel
theorem dX8_settleAll_9 : decode cX8_settleAll 9 = .ok (.bipush 10, 2) := by decide +kernel
theorem dX8_settleAll_11 : decode cX8_settleAll 11 = .ok (.if_icmp .ge 64, 3) := by decide +kernel
theorem dX8_settleAll_14 : decode cX8_settleAll 14 = .ok (.iconst 0, 1) := by decide +kernel
theorem dX8_settleAll_15 : decode cX8_settleAll 15 = .ok (.istore_n 1, 1) := by decide +kernel
theorem dX8_settleAll_16 : decode cX8_settleAll 16 = .ok (.iconst 0, 1) := by decide +kernel
theorem dX8_settleAll_17 : decode cX8_settleAll 17 = .ok (.istore_n 3, 1) := by decide +kernel
theorem dX8_settleAll_18 : decode cX8_settleAll 18 = .ok (.iload_n 3, 1) := by decide +kernel
theorem dX8_settleAll_19 : decode cX8_settleAll 19 = .ok (.aload_n 0, 1) := by decide +kernel
theorem dX8_settleAll_20 : decode cX8_settleAll 20 = .ok (.getfield 42, 3) := by decide +kernel
theorem dX8_settleAll_23 : decode cX8_settleAll 23 = .ok (.getfield 74, 3) := by decide +kernel
theorem dX8_settleAll_26 : decode cX8_settleAll 26 = .ok (.iconst 3, 1) := by decide +kernel
theorem dX8_settleAll_27 : decode cX8_settleAll 27 = .ok (.iaload, 1) := by decide +kernel
theorem dX8_settleAll_28 : decode cX8_settleAll 28 = .ok (.if_icmp .ge 41, 3) := by decide +kernel
theorem dX8_settleAll_69 : decode cX8_settleAll 69 = .ok (.iinc 2 1, 3) := by decide +kernel
theorem dX8_settleAll_72 : decode cX8_settleAll 72 = .ok (.goto (-68), 3) := by decide +kernel
theorem dX8_settleAll_75 : decode cX8_settleAll 75 = .ok (.iload_n 2, 1) := by decide +kernel
theorem dX8_settleAll_76 : decode cX8_settleAll 76 = .ok (.ireturn, 1) := by decide +kernel
theorem dX8_sumOfParcels_0 : decode cX8_sumOfParcels 0 = .ok (.iconst 0, 1) := by decide +kernel
theorem dX8_sumOfParcels_1 : decode cX8_sumOfParcels 1 = .ok (.istore_n 2, 1) := by decide +kernel
theorem dX8_sumOfParcels_2 : decode cX8_sumOfParcels 2 = .ok (.iconst 0, 1) := by decide +kernel
theorem dX8_sumOfParcels_3 : decode cX8_sumOfParcels 3 = .ok (.istore_n 3, 1) := by decide +kernel
theorem dX8_sumOfParcels_4 : decode cX8_sumOfParcels 4 = .ok (.iload_n 3, 1) := by decide +kernel
theorem dX8_sumOfParcels_5 : decode cX8_sumOfParcels 5 = .ok (.aload_n 0, 1) := by decide +kernel
theorem dX8_sumOfParcels_6 : decode cX8_sumOfParcels 6 = .ok (.getfield 42, 3) := by decide +kernel
theorem dX8_sumOfParcels_9 : decode cX8_sumOfParcels 9 = .ok (.getfield 74, 3) := by decide +kernel
theorem dX8_sumOfParcels_12 : decode cX8_sumOfParcels 12 = .ok (.iconst 2, 1) := by decide +kernel
theorem dX8_sumOfParcels_13 : decode cX8_sumOfParcels 13 = .ok (.iaload, 1) := by decide +kernel
theorem dX8_sumOfParcels_14 : decode cX8_sumOfParcels 14 = .ok (.if_icmp .ge 21, 3) := by decide +kernel
theorem dX8_sumOfParcels_35 : decode cX8_sumOfParcels 35 = .ok (.iload_n 2, 1) := by decide +kernel
theorem dX8_sumOfParcels_36 : decode cX8_sumOfParcels 36 = .ok (.ireturn, 1) := by decide +kernel
theorem dX8_takeFrom_0 : decode cX8_takeFrom 0 = .ok (.aload_n 0, 1) := by decide +kernel
theorem dX8_takeFrom_1 : decode cX8_takeFrom 1 = .ok (.aload_n 1, 1) := by decide +kernel
theorem dX8_takeFrom_2 : decode cX8_takeFrom 2 = .ok (.getfield 42, 3) := by decide +kernel
theorem dX8_takeFrom_5 : decode cX8_takeFrom 5 = .ok (.putfield 42, 3) := by decide +kernel
theorem dX8_takeFrom_8 : decode cX8_takeFrom 8 = .ok (.aload_n 0, 1) := by decide +kernel
theorem dX8_takeFrom_9 : decode cX8_takeFrom 9 = .ok (.aload_n 1, 1) := by decide +kernel
theorem dX8_takeFrom_10 : decode cX8_takeFrom 10 = .ok (.getfield 52, 3) := by decide +kernel
theorem dX8_takeFrom_13 : decode cX8_takeFrom 13 = .ok (.putfield 52, 3) := by decide +kernel
theorem dX8_takeFrom_16 : decode cX8_takeFrom 16 = .ok (.aload_n 1, 1) := by decide +kernel
theorem dX8_takeFrom_17 : decode cX8_takeFrom 17 = .ok (.getfield 9, 3) := by decide +kernel
theorem dX8_takeFrom_20 : decode cX8_takeFrom 20 = .ok (.iconst 0, 1) := by decide +kernel
theorem dX8_takeFrom_21 : decode cX8_takeFrom 21 = .ok (.aload_n 0, 1) := by decide +kernel
theorem dX8_takeFrom_22 : decode cX8_takeFrom 22 = .ok (.getfield 9, 3) := by decide +kernel
theorem dX8_takeFrom_25 : decode cX8_takeFrom 25 = .ok (.iconst 0, 1) := by decide +kernel
theorem dX8_takeFrom_26 : decode cX8_takeFrom 26 = .ok (.aload_n 0, 1) := by decide +kernel
theorem dX8_takeFrom_27 : decode cX8_takeFrom 27 = .ok (.getfield 9, 3) := by decide +kernel
theorem dX8_takeFrom_30 : decode cX8_takeFrom 30 = .ok (.arraylength, 1) := by decide +kernel
theorem dX8_takeFrom_31 : decode cX8_takeFrom 31 = .ok (.invokestatic 56, 3) := by decide +kernel
theorem dX8_takeFrom_34 : decode cX8_takeFrom 34 = .ok (.aload_n 1, 1) := by decide +kernel
theorem dX8_takeFrom_35 : decode cX8_takeFrom 35 = .ok (.getfield 15, 3) := by decide +kernel
theorem dX8_takeFrom_38 : decode cX8_takeFrom 38 = .ok (.iconst 0, 1) := by decide +kernel
theorem dX8_takeFrom_39 : decode cX8_takeFrom 39 = .ok (.aload_n 0, 1) := by decide +kernel
theorem dX8_takeFrom_40 : decode cX8_takeFrom 40 = .ok (.getfield 15, 3) := by decide +kernel
theorem dX8_takeFrom_43 : decode cX8_takeFrom 43 = .ok (.iconst 0, 1) := by decide +kernel
theorem dX8_takeFrom_44 : decode cX8_takeFrom 44 = .ok (.aload_n 0, 1) := by decide +kernel
theorem dX8_takeFrom_45 : decode cX8_takeFrom 45 = .ok (.getfield 15, 3) := by decide +kernel
theorem dX8_takeFrom_48 : decode cX8_takeFrom 48 = .ok (.arraylength, 1) := by decide +kernel
theorem dX8_takeFrom_49 : decode cX8_takeFrom 49 = .ok (.invokestatic 56, 3) := by decide +kernel
theorem dX8_takeFrom_52 : decode cX8_takeFrom 52 = .ok (.aload_n 1, 1) := by decide +kernel
theorem dX8_takeFrom_53 : decode cX8_takeFrom 53 = .ok (.getfield 18, 3) := by decide +kernel
theorem dX8_takeFrom_56 : decode cX8_takeFrom 56 = .ok (.iconst 0, 1) := by decide +kernel
theorem dX8_takeFrom_57 : decode cX8_takeFrom 57 = .ok (.aload_n 0, 1) := by decide +kernel
theorem dX8_takeFrom_58 : decode cX8_takeFrom 58 = .ok (.getfield 18, 3) := by decide +kernel
theorem dX8_takeFrom_61 : decode cX8_takeFrom 61 = .ok (.iconst 0, 1) := by decide +kernel
theorem dX8_takeFrom_62 : decode cX8_takeFrom 62 = .ok (.aload_n 0, 1) := by decide +kernel
theorem dX8_takeFrom_63 : decode cX8_takeFrom 63 = .ok (.getfield 18, 3) := by decide +kernel
theorem dX8_takeFrom_66 : decode cX8_takeFrom 66 = .ok (.arraylength, 1) := by decide +kernel
theorem dX8_takeFrom_67 : decode cX8_takeFrom 67 = .ok (.invokestatic 56, 3) := by decide +kernel
theorem dX8_takeFrom_70 : decode cX8_takeFrom 70 = .ok (.aload_n 1, 1) := by decide +kernel
theorem dX8_takeFrom_71 : decode cX8_takeFrom 71 = .ok (.getfield 21, 3) := by decide +kernel
theorem dX8_takeFrom_74 : decode cX8_takeFrom 74 = .ok (.iconst 0, 1) := by decide +kernel
theorem dX8_takeFrom_75 : decode cX8_takeFrom 75 = .ok (.aload_n 0, 1) := by decide +kernel
theorem dX8_takeFrom_76 : decode cX8_takeFrom 76 = .ok (.getfield 21, 3) := by decide +kernel
theorem dX8_takeFrom_79 : decode cX8_takeFrom 79 = .ok (.iconst 0, 1) := by decide +kernel
theorem dX8_takeFrom_80 : decode cX8_takeFrom 80 = .ok (.aload_n 0, 1) := by decide +kernel
theorem dX8_takeFrom_81 : decode cX8_takeFrom 81 = .ok (.getfield 21, 3) := by decide +kernel
theorem dX8_takeFrom_84 : decode cX8_takeFrom 84 = .ok (.arraylength, 1) := by decide +kernel
theorem dX8_takeFrom_85 : decode cX8_takeFrom 85 = .ok (.invokestatic 56, 3) := by decide +kernel
theorem dX8_takeFrom_88 : decode cX8_takeFrom 88 = .ok (.aload_n 1, 1) := by decide +kernel
theorem dX8_takeFrom_89 : decode cX8_takeFrom 89 = .ok (.getfield 24, 3) := by decide +kernel
theorem dX8_takeFrom_92 : decode cX8_takeFrom 92 = .ok (.iconst 0, 1) := by decide +kernel
theorem dX8_takeFrom_93 : decode cX8_takeFrom 93 = .ok (.aload_n 0, 1) := by decide +kernel
theorem dX8_takeFrom_94 : decode cX8_takeFrom 94 = .ok (.getfield 24, 3) := by decide +kernel
theorem dX8_takeFrom_97 : decode cX8_takeFrom 97 = .ok (.iconst 0, 1) := by decide +kernel
theorem dX8_takeFrom_98 : decode cX8_takeFrom 98 = .ok (.aload_n 0, 1) := by decide +kernel
theorem dX8_takeFrom_99 : decode cX8_takeFrom 99 = .ok (.getfield 24, 3) := by decide +kernel
theorem dX8_takeFrom_102 : decode cX8_takeFrom 102 = .ok (.arraylength, 1) := by decide +kernel
theorem dX8_takeFrom_103 : decode cX8_takeFrom 103 = .ok (.invokestatic 56, 3) := by decide +kernel
theorem dX8_takeFrom_106 : decode cX8_takeFrom 106 = .ok (.aload_n 1, 1) := by decide +kernel
theorem dX8_takeFrom_107 : decode cX8_takeFrom 107 = .ok (.getfield 27, 3) := by decide +kernel
theorem dX8_takeFrom_110 : decode cX8_takeFrom 110 = .ok (.iconst 0, 1) := by decide +kernel
theorem dX8_takeFrom_111 : decode cX8_takeFrom 111 = .ok (.aload_n 0, 1) := by decide +kernel
theorem dX8_takeFrom_112 : decode cX8_takeFrom 112 = .ok (.getfield 27, 3) := by decide +kernel
theorem dX8_takeFrom_115 : decode cX8_takeFrom 115 = .ok (.iconst 0, 1) := by decide +kernel
theorem dX8_takeFrom_116 : decode cX8_takeFrom 116 = .ok (.aload_n 0, 1) := by decide +kernel
theorem dX8_takeFrom_117 : decode cX8_takeFrom 117 = .ok (.getfield 27, 3) := by decide +kernel
theorem dX8_takeFrom_120 : decode cX8_takeFrom 120 = .ok (.arraylength, 1) := by decide +kernel
theorem dX8_takeFrom_121 : decode cX8_takeFrom 121 = .ok (.invokestatic 56, 3) := by decide +kernel
theorem dX8_takeFrom_124 : decode cX8_takeFrom 124 = .ok (.aload_n 1, 1) := by decide +kernel
theorem dX8_takeFrom_125 : decode cX8_takeFrom 125 = .ok (.getfield 30, 3) := by decide +kernel
theorem dX8_takeFrom_128 : decode cX8_takeFrom 128 = .ok (.iconst 0, 1) := by decide +kernel
theorem dX8_takeFrom_129 : decode cX8_takeFrom 129 = .ok (.aload_n 0, 1) := by decide +kernel
theorem dX8_takeFrom_130 : decode cX8_takeFrom 130 = .ok (.getfield 30, 3) := by decide +kernel
theorem dX8_takeFrom_133 : decode cX8_takeFrom 133 = .ok (.iconst 0, 1) := by decide +kernel
theorem dX8_takeFrom_134 : decode cX8_takeFrom 134 = .ok (.aload_n 0, 1) := by decide +kernel
theorem dX8_takeFrom_135 : decode cX8_takeFrom 135 = .ok (.getfield 30, 3) := by decide +kernel
theorem dX8_takeFrom_138 : decode cX8_takeFrom 138 = .ok (.arraylength, 1) := by decide +kernel
theorem dX8_takeFrom_139 : decode cX8_takeFrom 139 = .ok (.invokestatic 56, 3) := by decide +kernel
theorem dX8_takeFrom_142 : decode cX8_takeFrom 142 = .ok (.aload_n 1, 1) := by decide +kernel
theorem dX8_takeFrom_143 : decode cX8_takeFrom 143 = .ok (.getfield 33, 3) := by decide +kernel
theorem dX8_takeFrom_146 : decode cX8_takeFrom 146 = .ok (.iconst 0, 1) := by decide +kernel
theorem dX8_takeFrom_147 : decode cX8_takeFrom 147 = .ok (.aload_n 0, 1) := by decide +kernel
theorem dX8_takeFrom_148 : decode cX8_takeFrom 148 = .ok (.getfield 33, 3) := by decide +kernel
theorem dX8_takeFrom_151 : decode cX8_takeFrom 151 = .ok (.iconst 0, 1) := by decide +kernel
theorem dX8_takeFrom_152 : decode cX8_takeFrom 152 = .ok (.aload_n 0, 1) := by decide +kernel
theorem dX8_takeFrom_153 : decode cX8_takeFrom 153 = .ok (.getfield 33, 3) := by decide +kernel
theorem dX8_takeFrom_156 : decode cX8_takeFrom 156 = .ok (.arraylength, 1) := by decide +kernel
theorem dX8_takeFrom_157 : decode cX8_takeFrom 157 = .ok (.invokestatic 56, 3) := by decide +kernel
theorem dX8_takeFrom_160 : decode cX8_takeFrom 160 = .ok (.aload_n 1, 1) := by decide +kernel
theorem dX8_takeFrom_161 : decode cX8_takeFrom 161 = .ok (.getfield 36, 3) := by decide +kernel
theorem dX8_takeFrom_164 : decode cX8_takeFrom 164 = .ok (.iconst 0, 1) := by decide +kernel
theorem dX8_takeFrom_165 : decode cX8_takeFrom 165 = .ok (.aload_n 0, 1) := by decide +kernel
theorem dX8_takeFrom_166 : decode cX8_takeFrom 166 = .ok (.getfield 36, 3) := by decide +kernel
theorem dX8_takeFrom_169 : decode cX8_takeFrom 169 = .ok (.iconst 0, 1) := by decide +kernel
theorem dX8_takeFrom_170 : decode cX8_takeFrom 170 = .ok (.aload_n 0, 1) := by decide +kernel
theorem dX8_takeFrom_171 : decode cX8_takeFrom 171 = .ok (.getfield 36, 3) := by decide +kernel
theorem dX8_takeFrom_174 : decode cX8_takeFrom 174 = .ok (.arraylength, 1) := by decide +kernel
theorem dX8_takeFrom_175 : decode cX8_takeFrom 175 = .ok (.invokestatic 56, 3) := by decide +kernel
theorem dX8_takeFrom_178 : decode cX8_takeFrom 178 = .ok (.return_, 1) := by decide +kernel
theorem dX8_whichAreNothing_0 : decode cX8_whichAreNothing 0 = .ok (.iconst 0, 1) := by decide +kernel
theorem dX8_whichAreNothing_1 : decode cX8_whichAreNothing 1 = .ok (.istore_n 1, 1) := by decide +kernel
theorem dX8_whichAreNothing_2 : decode cX8_whichAreNothing 2 = .ok (.iconst 0, 1) := by decide +kernel
theorem dX8_whichAreNothing_3 : decode cX8_whichAreNothing 3 = .ok (.istore_n 2, 1) := by decide +kernel
theorem dX8_whichAreNothing_4 : decode cX8_whichAreNothing 4 = .ok (.iload_n 2, 1) := by decide +kernel
theorem dX8_whichAreNothing_5 : decode cX8_whichAreNothing 5 = .ok (.aload_n 0, 1) := by decide +kernel
theorem dX8_whichAreNothing_6 : decode cX8_whichAreNothing 6 = .ok (.getfield 42, 3) := by decide +kernel
theorem dX8_whichAreNothing_9 : decode cX8_whichAreNothing 9 = .ok (.getfield 74, 3) := by decide +kernel
theorem dX8_whichAreNothing_12 : decode cX8_whichAreNothing 12 = .ok (.iconst 2, 1) := by decide +kernel
theorem dX8_whichAreNothing_13 : decode cX8_whichAreNothing 13 = .ok (.iaload, 1) := by decide +kernel
theorem dX8_whichAreNothing_14 : decode cX8_whichAreNothing 14 = .ok (.if_icmp .ge 24, 3) := by decide +kernel
theorem dX8_whichAreNothing_38 : decode cX8_whichAreNothing 38 = .ok (.iload_n 1, 1) := by decide +kernel
theorem dX8_whichAreNothing_39 : decode cX8_whichAreNothing 39 = .ok (.ireturn, 1) := by decide +kernel
theorem dX8_whichAreOpen_0 : decode cX8_whichAreOpen 0 = .ok (.iconst 0, 1) := by decide +kernel
theorem dX8_whichAreOpen_1 : decode cX8_whichAreOpen 1 = .ok (.istore_n 1, 1) := by decide +kernel
theorem dX8_whichAreOpen_2 : decode cX8_whichAreOpen 2 = .ok (.iconst 0, 1) := by decide +kernel
theorem dX8_whichAreOpen_3 : decode cX8_whichAreOpen 3 = .ok (.istore_n 2, 1) := by decide +kernel
theorem dX8_whichAreOpen_4 : decode cX8_whichAreOpen 4 = .ok (.iload_n 2, 1) := by decide +kernel
theorem dX8_whichAreOpen_5 : decode cX8_whichAreOpen 5 = .ok (.aload_n 0, 1) := by decide +kernel
theorem dX8_whichAreOpen_6 : decode cX8_whichAreOpen 6 = .ok (.getfield 42, 3) := by decide +kernel
theorem dX8_whichAreOpen_9 : decode cX8_whichAreOpen 9 = .ok (.getfield 74, 3) := by decide +kernel
theorem dX8_whichAreOpen_12 : decode cX8_whichAreOpen 12 = .ok (.iconst 2, 1) := by decide +kernel
theorem dX8_whichAreOpen_13 : decode cX8_whichAreOpen 13 = .ok (.iaload, 1) := by decide +kernel
theorem dX8_whichAreOpen_14 : decode cX8_whichAreOpen 14 = .ok (.if_icmp .ge 23, 3) := by decide +kernel
theorem dX8_whichAreOpen_37 : decode cX8_whichAreOpen 37 = .ok (.iload_n 1, 1) := by decide +kernel
theorem dX8_whichAreOpen_38 : decode cX8_whichAreOpen 38 = .ok (.ireturn, 1) := by decide +kernel
theorem dX8_whichAreWatched_0 : decode cX8_whichAreWatched 0 = .ok (.iconst 0, 1) := by decide +kernel
theorem dX8_whichAreWatched_1 : decode cX8_whichAreWatched 1 = .ok (.istore_n 1, 1) := by decide +kernel
theorem dX8_whichAreWatched_2 : decode cX8_whichAreWatched 2 = .ok (.iconst 0, 1) := by decide +kernel
theorem dX8_whichAreWatched_3 : decode cX8_whichAreWatched 3 = .ok (.istore_n 2, 1) := by decide +kernel
theorem dX8_whichAreWatched_4 : decode cX8_whichAreWatched 4 = .ok (.iload_n 2, 1) := by decide +kernel
theorem dX8_whichAreWatched_5 : decode cX8_whichAreWatched 5 = .ok (.aload_n 0, 1) := by decide +kernel
theorem dX8_whichAreWatched_6 : decode cX8_whichAreWatched 6 = .ok (.getfield 42, 3) := by decide +kernel
theorem dX8_whichAreWatched_9 : decode cX8_whichAreWatched 9 = .ok (.getfield 74, 3) := by decide +kernel
theorem dX8_whichAreWatched_12 : decode cX8_whichAreWatched 12 = .ok (.iconst 2, 1) := by decide +kernel
theorem dX8_whichAreWatched_13 : decode cX8_whichAreWatched 13 = .ok (.iaload, 1) := by decide +kernel
theorem dX8_whichAreWatched_14 : decode cX8_whichAreWatched 14 = .ok (.if_icmp .ge 23, 3) := by decide +kernel
theorem dX8_whichAreWatched_37 : decode cX8_whichAreWatched 37 = .ok (.iload_n 1, 1) := by decide +kernel
theorem dX8_whichAreWatched_38 : decode cX8_whichAreWatched 38 = .ok (.ireturn, 1) := by decide +kernel
theorem dX9_init_0 : decode cX9_init 0 = .ok (.aload_n 0, 1) := by decide +kernel
theorem dX9_init_1 : decode cX9_init 1 = .ok (.invokespecial 1, 3) := by decide +kernel
theorem dX9_init_4 : decode cX9_init 4 = .ok (.aload_n 0, 1) := by decide +kernel
theorem dX9_init_5 : decode cX9_init 5 = .ok (.new 7, 3) := by decide +kernel
theorem dX9_init_8 : decode cX9_init 8 = .ok (.dup, 1) := by decide +kernel
theorem dX9_init_9 : decode cX9_init 9 = .ok (.invokespecial 9, 3) := by decide +kernel
theorem dX9_init_12 : decode cX9_init 12 = .ok (.putfield 10, 3) := by decide +kernel
theorem dX9_init_15 : decode cX9_init 15 = .ok (.aload_n 0, 1) := by decide +kernel
theorem dX9_init_16 : decode cX9_init 16 = .ok (.new 16, 3) := by decide +kernel
theorem dX9_init_19 : decode cX9_init 19 = .ok (.dup, 1) := by decide +kernel
theorem dX9_init_20 : decode cX9_init 20 = .ok (.invokespecial 18, 3) := by decide +kernel
theorem dX9_init_23 : decode cX9_init 23 = .ok (.putfield 19, 3) := by decide +kernel
theorem dX9_init_26 : decode cX9_init 26 = .ok (.aload_n 0, 1) := by decide +kernel
theorem dX9_init_27 : decode cX9_init 27 = .ok (.iconst 4, 1) := by decide +kernel
theorem dX9_init_28 : decode cX9_init 28 = .ok (.newarray .int, 2) := by decide +kernel
theorem dX9_init_30 : decode cX9_init 30 = .ok (.dup, 1) := by decide +kernel
theorem dX9_init_31 : decode cX9_init 31 = .ok (.iconst 0, 1) := by decide +kernel
theorem dX9_init_32 : decode cX9_init 32 = .ok (.iconst (-1), 1) := by decide +kernel
theorem dX9_init_33 : decode cX9_init 33 = .ok (.iastore, 1) := by decide +kernel
theorem dX9_init_34 : decode cX9_init 34 = .ok (.dup, 1) := by decide +kernel
theorem dX9_init_35 : decode cX9_init 35 = .ok (.iconst 1, 1) := by decide +kernel
theorem dX9_init_36 : decode cX9_init 36 = .ok (.iconst (-1), 1) := by decide +kernel
theorem dX9_init_37 : decode cX9_init 37 = .ok (.iastore, 1) := by decide +kernel
theorem dX9_init_38 : decode cX9_init 38 = .ok (.dup, 1) := by decide +kernel
theorem dX9_init_39 : decode cX9_init 39 = .ok (.iconst 2, 1) := by decide +kernel
theorem dX9_init_40 : decode cX9_init 40 = .ok (.iconst (-1), 1) := by decide +kernel
theorem dX9_init_41 : decode cX9_init 41 = .ok (.iastore, 1) := by decide +kernel
theorem dX9_init_42 : decode cX9_init 42 = .ok (.dup, 1) := by decide +kernel
theorem dX9_init_43 : decode cX9_init 43 = .ok (.iconst 3, 1) := by decide +kernel
theorem dX9_init_44 : decode cX9_init 44 = .ok (.iconst (-1), 1) := by decide +kernel
theorem dX9_init_45 : decode cX9_init 45 = .ok (.iastore, 1) := by decide +kernel
theorem dX9_init_46 : decode cX9_init 46 = .ok (.putfield 23, 3) := by decide +kernel
theorem dX9_init_49 : decode cX9_init 49 = .ok (.aload_n 0, 1) := by decide +kernel
theorem dX9_init_50 : decode cX9_init 50 = .ok (.new 27, 3) := by decide +kernel
theorem dX9_init_53 : decode cX9_init 53 = .ok (.dup, 1) := by decide +kernel
theorem dX9_init_54 : decode cX9_init 54 = .ok (.invokespecial 29, 3) := by decide +kernel
theorem dX9_init_57 : decode cX9_init 57 = .ok (.putfield 30, 3) := by decide +kernel
theorem dX9_init_60 : decode cX9_init 60 = .ok (.aload_n 0, 1) := by decide +kernel
theorem dX9_init_61 : decode cX9_init 61 = .ok (.bipush 8, 2) := by decide +kernel
theorem dX9_init_63 : decode cX9_init 63 = .ok (.newarray .int, 2) := by decide +kernel
theorem dX9_init_65 : decode cX9_init 65 = .ok (.putfield 34, 3) := by decide +kernel
theorem dX9_init_68 : decode cX9_init 68 = .ok (.aload_n 0, 1) := by decide +kernel
theorem dX9_init_69 : decode cX9_init 69 = .ok (.new 37, 3) := by decide +kernel
theorem dX9_init_72 : decode cX9_init 72 = .ok (.dup, 1) := by decide +kernel
theorem dX9_init_73 : decode cX9_init 73 = .ok (.invokespecial 39, 3) := by decide +kernel
theorem dX9_init_76 : decode cX9_init 76 = .ok (.putfield 40, 3) := by decide +kernel
theorem dX9_init_79 : decode cX9_init 79 = .ok (.aload_n 0, 1) := by decide +kernel
theorem dX9_init_80 : decode cX9_init 80 = .ok (.iconst 0, 1) := by decide +kernel
theorem dX9_init_81 : decode cX9_init 81 = .ok (.putfield 44, 3) := by decide +kernel
theorem dX9_init_84 : decode cX9_init 84 = .ok (.aload_n 0, 1) := by decide +kernel
theorem dX9_init_85 : decode cX9_init 85 = .ok (.iconst (-1), 1) := by decide +kernel
theorem dX9_init_86 : decode cX9_init 86 = .ok (.putfield 48, 3) := by decide +kernel
theorem dX9_init_89 : decode cX9_init 89 = .ok (.aload_n 0, 1) := by decide +kernel
theorem dX9_init_90 : decode cX9_init 90 = .ok (.iconst (-1), 1) := by decide +kernel
theorem dX9_init_91 : decode cX9_init 91 = .ok (.putfield 51, 3) := by decide +kernel
theorem dX9_init_94 : decode cX9_init 94 = .ok (.aload_n 0, 1) := by decide +kernel
theorem dX9_init_95 : decode cX9_init 95 = .ok (.iconst (-1), 1) := by decide +kernel
theorem dX9_init_96 : decode cX9_init 96 = .ok (.putfield 54, 3) := by decide +kernel
theorem dX9_init_99 : decode cX9_init 99 = .ok (.new 57, 3) := by decide +kernel
theorem dX9_init_102 : decode cX9_init 102 = .ok (.dup, 1) := by decide +kernel
theorem dX9_init_103 : decode cX9_init 103 = .ok (.invokespecial 59, 3) := by decide +kernel
theorem dX9_init_106 : decode cX9_init 106 = .ok (.astore_n 1, 1) := by decide +kernel
theorem dX9_init_107 : decode cX9_init 107 = .ok (.aload_n 0, 1) := by decide +kernel
theorem dX9_init_108 : decode cX9_init 108 = .ok (.new 60, 3) := by decide +kernel
theorem dX9_init_111 : decode cX9_init 111 = .ok (.dup, 1) := by decide +kernel
theorem dX9_init_112 : decode cX9_init 112 = .ok (.aload_n 1, 1) := by decide +kernel
theorem dX9_init_113 : decode cX9_init 113 = .ok (.invokespecial 62, 3) := by decide +kernel
theorem dX9_init_116 : decode cX9_init 116 = .ok (.putfield 65, 3) := by decide +kernel
theorem dX9_init_119 : decode cX9_init 119 = .ok (.aload_n 0, 1) := by decide +kernel
theorem dX9_init_120 : decode cX9_init 120 = .ok (.new 60, 3) := by decide +kernel
theorem dX9_init_123 : decode cX9_init 123 = .ok (.dup, 1) := by decide +kernel
theorem dX9_init_124 : decode cX9_init 124 = .ok (.aload_n 1, 1) := by decide +kernel
theorem dX9_init_125 : decode cX9_init 125 = .ok (.invokespecial 62, 3) := by decide +kernel
theorem dX9_init_128 : decode cX9_init 128 = .ok (.putfield 69, 3) := by decide +kernel
theorem dX9_init_131 : decode cX9_init 131 = .ok (.aload_n 0, 1) := by decide +kernel
theorem dX9_init_132 : decode cX9_init 132 = .ok (.new 72, 3) := by decide +kernel
theorem dX9_init_135 : decode cX9_init 135 = .ok (.dup, 1) := by decide +kernel
theorem dX9_init_136 : decode cX9_init 136 = .ok (.aload_n 1, 1) := by decide +kernel
theorem dX9_init_137 : decode cX9_init 137 = .ok (.invokespecial 74, 3) := by decide +kernel
theorem dX9_init_140 : decode cX9_init 140 = .ok (.putfield 75, 3) := by decide +kernel
theorem dX9_init_143 : decode cX9_init 143 = .ok (.aload_n 0, 1) := by decide +kernel
theorem dX9_init_144 : decode cX9_init 144 = .ok (.iconst 2, 1) := by decide +kernel
theorem dX9_init_145 : decode cX9_init 145 = .ok (.anewarray 79, 3) := by decide +kernel
theorem dX9_init_148 : decode cX9_init 148 = .ok (.dup, 1) := by decide +kernel
theorem dX9_init_149 : decode cX9_init 149 = .ok (.iconst 0, 1) := by decide +kernel
theorem dX9_init_150 : decode cX9_init 150 = .ok (.new 79, 3) := by decide +kernel
theorem dX9_init_153 : decode cX9_init 153 = .ok (.dup, 1) := by decide +kernel
theorem dX9_init_154 : decode cX9_init 154 = .ok (.aload_n 1, 1) := by decide +kernel
theorem dX9_init_155 : decode cX9_init 155 = .ok (.invokespecial 81, 3) := by decide +kernel
theorem dX9_init_158 : decode cX9_init 158 = .ok (.aastore, 1) := by decide +kernel
theorem dX9_init_159 : decode cX9_init 159 = .ok (.dup, 1) := by decide +kernel
theorem dX9_init_160 : decode cX9_init 160 = .ok (.iconst 1, 1) := by decide +kernel
theorem dX9_init_161 : decode cX9_init 161 = .ok (.new 79, 3) := by decide +kernel
theorem dX9_init_164 : decode cX9_init 164 = .ok (.dup, 1) := by decide +kernel
theorem dX9_init_165 : decode cX9_init 165 = .ok (.aload_n 1, 1) := by decide +kernel
theorem dX9_init_166 : decode cX9_init 166 = .ok (.invokespecial 81, 3) := by decide +kernel
theorem dX9_init_169 : decode cX9_init 169 = .ok (.aastore, 1) := by decide +kernel
theorem dX9_init_170 : decode cX9_init 170 = .ok (.putfield 82, 3) := by decide +kernel
theorem dX9_init_173 : decode cX9_init 173 = .ok (.aload_n 0, 1) := by decide +kernel
theorem dX9_init_174 : decode cX9_init 174 = .ok (.getfield 34, 3) := by decide +kernel
theorem dX9_init_177 : decode cX9_init 177 = .ok (.iconst (-1), 1) := by decide +kernel
theorem dX9_init_178 : decode cX9_init 178 = .ok (.invokestatic 86, 3) := by decide +kernel
theorem dX9_init_181 : decode cX9_init 181 = .ok (.return_, 1) := by decide +kernel
end
section
set_option maxHeartbeats 4000000 in
set_option maxRecDepth 100000 in
theorem c_fill (l : Launch) (D : va_G) (cy : Nat → ClassId) (z : Nat → Nat) (sz : Nat) (a : Nat) (n : Nat) (f : Nat → Int32) (v : Int32) (hn : n < 2 ^ 31) : Met l yJ7_fill_53178 (Cond.code yJ7_fill_53178 cJ7_fill_53178 4 none :: gT) ({ frames := 0, cells := 0, slots := 0, locals := 200 } : Room) (va_Pc [.ref a, .int v] (PRE D cy z [(a, .inl (cy 1, n, .inl f))] sz)) (va_Qv (fun (u : Unit) => True) (BB D cy (va_A [(a, .inl (cy 1, n, .inl f))] sz) (fun (u : Unit) => [(a, .inl (cy 1, n, .inl (fun _ => v)))])) (va_A [(a, .inl (cy 1, n, .inl f))] sz)) 0 0 (va_A [(a, .inl (cy 1, n, .inl f))] sz) := by
  refine Met.ofW (cc := cJ7_fill_53178) (maxL := 4) (ret := none) (by decide) rfl ?_
  intro p e s m args below meth c s₁ B hml hv
  obtain ⟨rfl, hsz, hP, hK, hD0, hSD⟩ := hv
  have hx := B.exec
  have hb := B.bytes
  have hr := B.returns
  have hlocks := B.notSynchronized
  have hts : ∀ w ∈ gT, w.before _ s = true := fun w h => atoms_spec (ws := Cond.code yJ7_fill_53178 cJ7_fill_53178 4 none :: gT) B.pre w (List.mem_cons_of_mem _ h)
  have hown : s.vm.findClass RJ7 = some m.cls := findClass_of_methodNamed B.named
  subst hsz
  have hD := hD0.self (sz := s.heap.size)
  generalize hAe : va_A [(a, .inl (cy 1, n, .inl f))] s.heap.size = A at hD hSD ⊢
  have hA : ∀ q : Nat, s.heap.size ≤ q → A q := fun q h => by rw [← hAe]; exact Or.inr h
  have hS : va_S A s.heap s.heap [] := va_S.rf
  have hl := lv_entry ([.ref a, .int v]) (n := 4) (Nat.le_of_ble_eq_true rfl)
  rw [lg_entry_eq]
  generalize (lg_sl ([.ref a, .int v]) ++ List.replicate (4 - (lg_sl ([.ref a, .int v])).length) Slot.unset).toArray = ls at hl ⊢
  have hl : lv_has ls 4 [(0, .ref a), (1, .int v)] := hl
  refine lv_iconst (v := 0) hx hb dJ7_fill_53178_0 (by decide) ?_
  refine lv_istore_n (lv' := [(2, .int 0), (0, .ref a), (1, .int v)]) hx hb dJ7_fill_53178_1 rfl hl (by decide) rfl (fun ls hl => ?_)
  refine lv_aload_n hx hb dJ7_fill_53178_2 rfl (lv_at hl 1 rfl) ?_
  refine va_alen (v := nI n) hx hb hK hP 0 1 rfl rfl rfl dJ7_fill_53178_3 ?_
  refine lv_istore_n (lv' := [(3, .int (nI n)), (2, .int 0), (0, .ref a), (1, .int v)]) hx hb dJ7_fill_53178_4 rfl hl (by decide) rfl (fun ls hl => ?_)
  have LP : ∀ (Q : State → Prop), (∀ (g_1 : Nat → Int32) (H : Heap) (locs : List Loc) (ls : Array Slot), (∀ j, j < (n) → g_1 j = v) → va_P D classes [(a, .inl (cy 1, n, .inl g_1))] H → va_D A [(a, .inl (cy 1, n, .inl g_1))] → va_S A s.heap H locs → lv_has ls 4 [(3, .int (nI n)), (2, .int (nI (n))), (0, .ref a), (1, .int v)] → W p l e (headSpec (Cond.code yJ7_fill_53178 cJ7_fill_53178 4 none :: gT) ({ frames := 0, cells := 0, slots := 0, locals := 200 } : Room)).room s m ([.ref a, .int v] : List Value).toArray below meth c H locs 0 0 Q (F0 m 20 ls [])) → ∀ (nf i : Nat) (g_1 : Nat → Int32) (H : Heap) (locs : List Loc) (ls : Array Slot), i ≤ n → n + 1 ≤ i + nf → (∀ j, j < i → g_1 j = v) → va_P D classes [(a, .inl (cy 1, n, .inl g_1))] H → va_D A [(a, .inl (cy 1, n, .inl g_1))] → va_S A s.heap H locs → lv_has ls 4 [(3, .int (nI n)), (2, .int (nI i)), (0, .ref a), (1, .int v)] → W p l e (headSpec (Cond.code yJ7_fill_53178 cJ7_fill_53178 4 none :: gT) ({ frames := 0, cells := 0, slots := 0, locals := 200 } : Room)).room s m ([.ref a, .int v] : List Value).toArray below meth c H locs 0 0 Q (F0 m 5 ls []) := by
    intro Q kx nf
    induction nf with
    | zero => intro i g_1 H locs ls h1 h2; exact absurd h2 (by omega)
    | succ nf ih =>
      intro i g_1 H locs ls hi hin hI hP hD hS hl
      refine lv_iload_n hx hb dJ7_fill_53178_5 rfl (lv_at hl 1 rfl) ?_
      refine lv_iload_n hx hb dJ7_fill_53178_6 rfl (lv_at hl 0 rfl) ?_
      refine lv_icmp_ge (tgt := 20) hx hb dJ7_fill_53178_7 (by decide) (fun c9 => ?_) (fun c9 => ?_)
      · have e9 : i = n := lpGe rfl (by omega) hi c9
        subst e9
        exact kx g_1 H locs ls hI (subP hP [0] rfl) (hD.sub [0] (by decide) rfl) hS (lv_sub hl [0, 1, 2, 3] rfl)
      · have hlt : i < n := lpLt rfl (by omega) hi c9
        refine lv_aload_n hx hb dJ7_fill_53178_10 rfl (lv_at hl 2 rfl) ?_
        refine lv_iload_n hx hb dJ7_fill_53178_11 rfl (lv_at hl 1 rfl) ?_
        refine lv_iload_n hx hb dJ7_fill_53178_12 rfl (lv_at hl 3 rfl) ?_
        refine va_iast hx hb hK hP hD hS 0 1 rfl rfl (vp_in_nI (by omega) (by omega)) dJ7_fill_53178_13 (fun H locs hP hD hS => ?_)
        obtain ⟨g_2, eg_2⟩ : ∃ g, g = upd g_1 (Int32.toNatClampNeg (nI i)) v := ⟨_, rfl⟩
        have hP : va_P D classes [(a, .inl (cy 1, n, .inl g_2))] H := by rw [eg_2]; exact hP
        have hD : va_D A [(a, .inl (cy 1, n, .inl g_2))] := by rw [eg_2]; exact hD
        refine lv_iinc (v := nI (i + 1)) (lv' := [(2, .int (nI (i + 1))), (3, .int (nI n)), (0, .ref a), (1, .int v)]) hx hb dJ7_fill_53178_14 hl (k := 1) rfl (nI_1 _) (by decide) rfl (fun ls hl => ?_)
        refine lv_goto (tgt := 5) hx hb dJ7_fill_53178_17 (by decide) ?_
        exact ih (i + 1) g_2 H locs ls hlt (by omega) (by rw [eg_2, nI_clamp (by omega)]; exact fillS hI) (subP hP [0] rfl) (hD.sub [0] (by decide) rfl) hS (lv_sub hl [1, 0, 2, 3] rfl)
  refine LP _ (fun g_1 H locs ls hI hP hD hS hl => ?_) (n + 1) 0 f _ _ ls (by omega) (by omega) (fun j h => absurd h (by omega)) hP hD hS (lv_sub hl [0, 1, 2, 3] rfl)
  have hP := congP (g := fun _ => v) hP 0 rfl hI rfl
  have hD := congD (f := g_1) (g := fun _ => v) hD 0 rfl rfl
  have hP : va_P D classes [(a, .inl (cy 1, n, .inl (fun _ => v)))] H := hP
  have hD : va_D A [(a, .inl (cy 1, n, .inl (fun _ => v)))] := hD
  have hP9 : va_P D classes [(a, .inl (cy 1, n, .inl (fun _ => v)))] H := subP hP [0] rfl
  have hD9 : va_D A [(a, .inl (cy 1, n, .inl (fun _ => v)))] := hD.sub [0] (by decide) rfl
  exact W.vret hx hb hr (fun t ht hW => ⟨⟨(), rfl, trivial, by rw [ht]; exact hP9, va_K.moved hW.alike hK, hD9⟩, hS.F ht⟩) hS.2.2 dJ7_fill_53178_20
set_option maxHeartbeats 4000000 in
set_option maxRecDepth 100000 in
theorem c_Tag_init (l : Launch) (D : va_G) (cy : Nat → ClassId) (z : Nat → Nat) (sz : Nat) (h : Nat) : Met l yX6_init (Cond.code yX6_init cX6_init 1 none :: gT) ({ frames := 2, cells := 1, slots := 26, locals := 400 } : Room) (va_Pc [.ref h] (PRE D cy z [(h, .inr (6, [.null, .int 0]))] sz)) (va_Qv (fun (u : (Nat)) => True) (BB D cy (va_A [(h, .inr (6, [.null, .int 0]))] sz) (fun (u : (Nat)) => [(h, .inr (6, [.ref u, .int 0])), (u, .inl (cy 0, 26, .inl (fun _ => 0)))])) (va_A [(h, .inr (6, [.null, .int 0]))] sz)) 1 26 (va_A [(h, .inr (6, [.null, .int 0]))] sz) := by
  refine Met.ofW (cc := cX6_init) (maxL := 1) (ret := none) (by decide) rfl ?_
  intro p e s m args below meth c s₁ B hml hv
  obtain ⟨rfl, hsz, hP, hK, hD0, hSD⟩ := hv
  have hx := B.exec
  have hb := B.bytes
  have hr := B.returns
  have hlocks := B.notSynchronized
  have hts : ∀ w ∈ gT, w.before _ s = true := fun w h => atoms_spec (ws := Cond.code yX6_init cX6_init 1 none :: gT) B.pre w (List.mem_cons_of_mem _ h)
  have hown : s.vm.findClass RX6 = some m.cls := findClass_of_methodNamed B.named
  have hin : meth.name = "<init>" := (name_of_methodNamed B.named B.method).1
  subst hsz
  have hD := hD0.self (sz := s.heap.size)
  generalize hAe : va_A [(h, .inr (6, [.null, .int 0]))] s.heap.size = A at hD hSD ⊢
  have hA : ∀ q : Nat, s.heap.size ≤ q → A q := fun q h => by rw [← hAe]; exact Or.inr h
  have hS : va_S A s.heap s.heap [] := va_S.rf
  have hl := lv_entry ([.ref h]) (n := 1) (Nat.le_of_ble_eq_true rfl)
  rw [lg_entry_eq]
  generalize (lg_sl ([.ref h]) ++ List.replicate (1 - (lg_sl ([.ref h])).length) Slot.unset).toArray = ls at hl ⊢
  have hl : lv_has ls 1 [(0, .ref h)] := hl
  refine lv_aload_n hx hb dX6_init_0 rfl (lv_at hl 0 rfl) ?_
  refine W.objInit hx hb hown (hts _ tw_182) (hts _ tw_30) (hts _ tw_31) rfl (by rw [hml]; exact hl.1) rfl dX6_init_1 (Nat.le_of_ble_eq_true rfl) (Nat.le_of_ble_eq_true rfl) ?_
  refine W.eq (g2 := F0 m 4 ls []) rfl ?_
  refine lv_aload_n hx hb dX6_init_4 rfl (lv_at hl 0 rfl) ?_
  refine lv_bipush (v := 26) hx hb dX6_init_5 (by decide) ?_
  refine newaC (atype := .byte) (ty := .byte) (N' := 26) (a0 := (26, .inl (fun _ => 0))) hx hb (hts _ tw_134) rfl (fun C h => by cases h) hK hP hD hS hA 0 rfl (fun _ => rfl) (by decide) (by decide) (by decide) (Nat.le_of_ble_eq_true rfl) (Nat.le_of_ble_eq_true rfl) dX6_init_7 (fun q_1 H hP hD hS => ?_)
  have hP : va_P D classes [(h, .inr (6, [.null, .int 0])), (q_1, .inl (cy 0, 26, .inl (fun _ => 0)))] H := hP
  have hD : va_D A [(h, .inr (6, [.null, .int 0])), (q_1, .inl (cy 0, 26, .inl (fun _ => 0)))] := hD
  refine W.widen (k := 1) (n := 26) (Nat.le_of_ble_eq_true rfl) (Nat.le_of_ble_eq_true rfl) ?_
  refine va_putF (D := D) (ci := 6) (v := .ref q_1) (ty := .array .byte) (C := RX6) (T := TX6) (N := 2) hx hb hts inX6 tyX6 tyX6_ok nmX6 hown hK hP hD hS 0 rfl rfl 0 (by decide) (hts _ tw_183) (fun _ h9 => h9) rfl hin rfl (by decide +kernel) rfl rfl (Nat.le_of_ble_eq_true rfl) dX6_init_9 (fun H locs hP hD hS => ?_)
  have hP : va_P D classes [(h, .inr (6, [.ref q_1, .int 0])), (q_1, .inl (cy 0, 26, .inl (fun _ => 0)))] H := hP
  have hD : va_D A [(h, .inr (6, [.ref q_1, .int 0])), (q_1, .inl (cy 0, 26, .inl (fun _ => 0)))] := hD
  refine lv_aload_n hx hb dX6_init_12 rfl (lv_at hl 0 rfl) ?_
  refine lv_iconst (v := 0) hx hb dX6_init_13 (by decide) ?_
  refine va_put (D := D) (ci := 6) (v := .int 0) (ty := .int) (C := RX6) (T := TX6) (N := 2) hx hb hts inX6 tyX6 tyX6_ok nmX6 hown hK hP hD hS 0 rfl rfl 1 (by decide) (hts _ tw_185) (fun _ h9 => h9) rfl (by decide +kernel) rfl rfl (Nat.le_of_ble_eq_true rfl) dX6_init_14 (fun H locs hP hD hS => ?_)
  have hP : va_P D classes [(h, .inr (6, [.ref q_1, .int 0])), (q_1, .inl (cy 0, 26, .inl (fun _ => 0)))] H := hP
  have hD : va_D A [(h, .inr (6, [.ref q_1, .int 0])), (q_1, .inl (cy 0, 26, .inl (fun _ => 0)))] := hD
  have hP9 : va_P D classes [(h, .inr (6, [.ref q_1, .int 0])), (q_1, .inl (cy 0, 26, .inl (fun _ => 0)))] H := subP hP [0, 1] rfl
  have hD9 : va_D A [(h, .inr (6, [.ref q_1, .int 0])), (q_1, .inl (cy 0, 26, .inl (fun _ => 0)))] := hD.sub [0, 1] (by decide) rfl
  refine W.widen (k := 1) (n := 26) (Nat.le_of_ble_eq_true rfl) (Nat.le_of_ble_eq_true rfl) ?_
  exact W.vret hx hb hr (fun t ht hW => ⟨⟨((q_1)), rfl, trivial, by rw [ht]; exact hP9, va_K.moved hW.alike hK, hD9⟩, hS.F ht⟩) hS.2.2 dX6_init_17
set_option maxHeartbeats 4000000 in
set_option maxRecDepth 100000 in
theorem c_Rooms_init (l : Launch) (D : va_G) (cy : Nat → ClassId) (z : Nat → Nat) (sz : Nat) (h : Nat) : Met l yX4_init (Cond.code yX4_init cX4_init 1 none :: gT) ({ frames := 2, cells := 2, slots := 12, locals := 400 } : Room) (va_Pc [.ref h] (PRE D cy z [(h, .inr (4, [.null, .null]))] sz)) (va_Qv (fun (u : (Nat) × (Nat)) => True) (BB D cy (va_A [(h, .inr (4, [.null, .null]))] sz) (fun (u : (Nat) × (Nat)) => [(h, .inr (4, [.ref u.1, .ref u.2])), (u.1, .inl (cy 1, 6, .inl (fun _ => 0))), (u.2, .inl (cy 1, 6, .inl (fun _ => (-1))))])) (va_A [(h, .inr (4, [.null, .null]))] sz)) 2 12 (va_A [(h, .inr (4, [.null, .null]))] sz) := by
  refine Met.ofW (cc := cX4_init) (maxL := 1) (ret := none) (by decide) rfl ?_
  intro p e s m args below meth c s₁ B hml hv
  obtain ⟨rfl, hsz, hP, hK, hD0, hSD⟩ := hv
  have hx := B.exec
  have hb := B.bytes
  have hr := B.returns
  have hlocks := B.notSynchronized
  have hts : ∀ w ∈ gT, w.before _ s = true := fun w h => atoms_spec (ws := Cond.code yX4_init cX4_init 1 none :: gT) B.pre w (List.mem_cons_of_mem _ h)
  have hown : s.vm.findClass RX4 = some m.cls := findClass_of_methodNamed B.named
  have hin : meth.name = "<init>" := (name_of_methodNamed B.named B.method).1
  subst hsz
  have hD := hD0.self (sz := s.heap.size)
  generalize hAe : va_A [(h, .inr (4, [.null, .null]))] s.heap.size = A at hD hSD ⊢
  have hA : ∀ q : Nat, s.heap.size ≤ q → A q := fun q h => by rw [← hAe]; exact Or.inr h
  have hS : va_S A s.heap s.heap [] := va_S.rf
  have hl := lv_entry ([.ref h]) (n := 1) (Nat.le_of_ble_eq_true rfl)
  rw [lg_entry_eq]
  generalize (lg_sl ([.ref h]) ++ List.replicate (1 - (lg_sl ([.ref h])).length) Slot.unset).toArray = ls at hl ⊢
  have hl : lv_has ls 1 [(0, .ref h)] := hl
  refine lv_aload_n hx hb dX4_init_0 rfl (lv_at hl 0 rfl) ?_
  refine W.objInit hx hb hown (hts _ tw_165) (hts _ tw_30) (hts _ tw_31) rfl (by rw [hml]; exact hl.1) rfl dX4_init_1 (Nat.le_of_ble_eq_true rfl) (Nat.le_of_ble_eq_true rfl) ?_
  refine W.eq (g2 := F0 m 4 ls []) rfl ?_
  refine lv_aload_n hx hb dX4_init_4 rfl (lv_at hl 0 rfl) ?_
  refine lv_bipush (v := 6) hx hb dX4_init_5 (by decide) ?_
  refine newaC (atype := .int) (ty := .int) (N' := 6) (a0 := (6, .inl (fun _ => 0))) hx hb (hts _ tw_159) rfl (fun C h => by cases h) hK hP hD hS hA 1 rfl (fun _ => rfl) (by decide) (by decide) (by decide) (Nat.le_of_ble_eq_true rfl) (Nat.le_of_ble_eq_true rfl) dX4_init_7 (fun q_1 H hP hD hS => ?_)
  have hP : va_P D classes [(h, .inr (4, [.null, .null])), (q_1, .inl (cy 1, 6, .inl (fun _ => 0)))] H := hP
  have hD : va_D A [(h, .inr (4, [.null, .null])), (q_1, .inl (cy 1, 6, .inl (fun _ => 0)))] := hD
  refine W.widen (k := 1) (n := 6) (Nat.le_of_ble_eq_true rfl) (Nat.le_of_ble_eq_true rfl) ?_
  refine va_putF (D := D) (ci := 4) (v := .ref q_1) (ty := .array .int) (C := RX4) (T := TX4) (N := 2) hx hb hts inX4 tyX4 tyX4_ok nmX4 hown hK hP hD hS 0 rfl rfl 0 (by decide) (hts _ tw_169) (fun _ h9 => h9) rfl hin rfl (by decide +kernel) rfl rfl (Nat.le_of_ble_eq_true rfl) dX4_init_9 (fun H locs hP hD hS => ?_)
  have hP : va_P D classes [(h, .inr (4, [.ref q_1, .null])), (q_1, .inl (cy 1, 6, .inl (fun _ => 0)))] H := hP
  have hD : va_D A [(h, .inr (4, [.ref q_1, .null])), (q_1, .inl (cy 1, 6, .inl (fun _ => 0)))] := hD
  refine lv_aload_n hx hb dX4_init_12 rfl (lv_at hl 0 rfl) ?_
  refine lv_bipush (v := 6) hx hb dX4_init_13 (by decide) ?_
  refine newaC (atype := .int) (ty := .int) (N' := 6) (a0 := (6, .inl (fun _ => 0))) hx hb (hts _ tw_159) rfl (fun C h => by cases h) hK hP hD hS hA 1 rfl (fun _ => rfl) (by decide) (by decide) (by decide) (Nat.le_of_ble_eq_true rfl) (Nat.le_of_ble_eq_true rfl) dX4_init_15 (fun q_2 H hP hD hS => ?_)
  have hP : va_P D classes [(h, .inr (4, [.ref q_1, .null])), (q_1, .inl (cy 1, 6, .inl (fun _ => 0))), (q_2, .inl (cy 1, 6, .inl (fun _ => 0)))] H := hP
  have hD : va_D A [(h, .inr (4, [.ref q_1, .null])), (q_1, .inl (cy 1, 6, .inl (fun _ => 0))), (q_2, .inl (cy 1, 6, .inl (fun _ => 0)))] := hD
  refine W.widen (k := 2) (n := 12) (Nat.le_of_ble_eq_true rfl) (Nat.le_of_ble_eq_true rfl) ?_
  refine va_putF (D := D) (ci := 4) (v := .ref q_2) (ty := .array .int) (C := RX4) (T := TX4) (N := 2) hx hb hts inX4 tyX4 tyX4_ok nmX4 hown hK hP hD hS 0 rfl rfl 1 (by decide) (hts _ tw_170) (fun _ h9 => h9) rfl hin rfl (by decide +kernel) rfl rfl (Nat.le_of_ble_eq_true rfl) dX4_init_17 (fun H locs hP hD hS => ?_)
  have hP : va_P D classes [(h, .inr (4, [.ref q_1, .ref q_2])), (q_1, .inl (cy 1, 6, .inl (fun _ => 0))), (q_2, .inl (cy 1, 6, .inl (fun _ => 0)))] H := hP
  have hD : va_D A [(h, .inr (4, [.ref q_1, .ref q_2])), (q_1, .inl (cy 1, 6, .inl (fun _ => 0))), (q_2, .inl (cy 1, 6, .inl (fun _ => 0)))] := hD
  refine lv_aload_n hx hb dX4_init_20 rfl (lv_at hl 0 rfl) ?_
  refine va_get (D := D) (ci := 4) (v := .ref q_2) (C := RX4) (T := TX4) (N := 2) hx hb hts inX4 hown hK hP 0 rfl rfl 1 (by decide) (hts _ tw_170) (fun _ h9 => h9) rfl dX4_init_21 ?_
  refine lv_iconst (v := (-1)) hx hb dX4_init_24 (by decide) ?_
  refine endv (wr := [(h, .inr (4, [.ref q_1, .ref q_2])), (q_1, .inl (cy 1, 6, .inl (fun _ => 0)))]) (va_runS (As := [.ref q_2, .int (-1)]) (rest := []) ⟨hx, hb, hml, hown, hts⟩ (c_fill l D cy z H.size q_2 6 (fun _ => 0) (-1) (by decide)) (va_cwS 2 hts (gS tw_166 tw_167 tw_9 tw_168) rfl rfl rfl (by decide +kernel) ⟨Nat.le_of_ble_eq_true rfl, Nat.le_of_ble_eq_true rfl⟩) (preS hP hD hK hSD hS hA [2] rfl (by decide)) rfl rfl hl.1 rfl (lv_room (Nat.le_of_ble_eq_true rfl)) dX4_init_25 ⟨Nat.le_of_ble_eq_true rfl, Nat.le_of_ble_eq_true rfl⟩) hP hD hS hA [2] [0, 1] rfl rfl (by decide) (by decide) (fun u_3 H locs hw_4 hP hD hS => ?_)
  have hP : va_P D classes [(h, .inr (4, [.ref q_1, .ref q_2])), (q_1, .inl (cy 1, 6, .inl (fun _ => 0))), (q_2, .inl (cy 1, 6, .inl (fun _ => (-1))))] H := hP
  have hD : va_D A [(h, .inr (4, [.ref q_1, .ref q_2])), (q_1, .inl (cy 1, 6, .inl (fun _ => 0))), (q_2, .inl (cy 1, 6, .inl (fun _ => (-1))))] := hD
  have hP9 : va_P D classes [(h, .inr (4, [.ref q_1, .ref q_2])), (q_1, .inl (cy 1, 6, .inl (fun _ => 0))), (q_2, .inl (cy 1, 6, .inl (fun _ => (-1))))] H := subP hP [0, 1, 2] rfl
  have hD9 : va_D A [(h, .inr (4, [.ref q_1, .ref q_2])), (q_1, .inl (cy 1, 6, .inl (fun _ => 0))), (q_2, .inl (cy 1, 6, .inl (fun _ => (-1))))] := hD.sub [0, 1, 2] (by decide) rfl
  refine W.widen (k := 2) (n := 12) (Nat.le_of_ble_eq_true rfl) (Nat.le_of_ble_eq_true rfl) ?_
  exact W.vret hx hb hr (fun t ht hW => ⟨⟨((q_1), (q_2)), rfl, trivial, by rw [ht]; exact hP9, va_K.moved hW.alike hK, hD9⟩, hS.F ht⟩) hS.2.2 dX4_init_28
set_option maxHeartbeats 4000000 in
set_option maxRecDepth 100000 in
theorem c_Book_init (l : Launch) (D : va_G) (cy : Nat → ClassId) (z : Nat → Nat) (sz : Nat) (h : Nat) : Met l yX0_init (Cond.code yX0_init cX0_init 1 none :: gT) ({ frames := 2, cells := 3, slots := 120, locals := 400 } : Room) (va_Pc [.ref h] (PRE D cy z [(h, .inr (0, [.null, .null, .null, .int 0, .int 0]))] sz)) (va_Qv (fun (u : (Nat) × (Nat) × (Nat)) => True) (BB D cy (va_A [(h, .inr (0, [.null, .null, .null, .int 0, .int 0]))] sz) (fun (u : (Nat) × (Nat) × (Nat)) => [(h, .inr (0, [.ref u.1, .ref u.2.1, .ref u.2.2, .int 0, .int 0])), (u.1, .inl (cy 1, 40, .inl (fun _ => 0))), (u.2.1, .inl (cy 1, 40, .inl (fun _ => 0))), (u.2.2, .inl (cy 1, 40, .inl (fun _ => 0)))])) (va_A [(h, .inr (0, [.null, .null, .null, .int 0, .int 0]))] sz)) 3 120 (va_A [(h, .inr (0, [.null, .null, .null, .int 0, .int 0]))] sz) := by
  refine Met.ofW (cc := cX0_init) (maxL := 1) (ret := none) (by decide) rfl ?_
  intro p e s m args below meth c s₁ B hml hv
  obtain ⟨rfl, hsz, hP, hK, hD0, hSD⟩ := hv
  have hx := B.exec
  have hb := B.bytes
  have hr := B.returns
  have hlocks := B.notSynchronized
  have hts : ∀ w ∈ gT, w.before _ s = true := fun w h => atoms_spec (ws := Cond.code yX0_init cX0_init 1 none :: gT) B.pre w (List.mem_cons_of_mem _ h)
  have hown : s.vm.findClass RX0 = some m.cls := findClass_of_methodNamed B.named
  have hin : meth.name = "<init>" := (name_of_methodNamed B.named B.method).1
  subst hsz
  have hD := hD0.self (sz := s.heap.size)
  generalize hAe : va_A [(h, .inr (0, [.null, .null, .null, .int 0, .int 0]))] s.heap.size = A at hD hSD ⊢
  have hA : ∀ q : Nat, s.heap.size ≤ q → A q := fun q h => by rw [← hAe]; exact Or.inr h
  have hS : va_S A s.heap s.heap [] := va_S.rf
  have hl := lv_entry ([.ref h]) (n := 1) (Nat.le_of_ble_eq_true rfl)
  rw [lg_entry_eq]
  generalize (lg_sl ([.ref h]) ++ List.replicate (1 - (lg_sl ([.ref h])).length) Slot.unset).toArray = ls at hl ⊢
  have hl : lv_has ls 1 [(0, .ref h)] := hl
  refine lv_aload_n hx hb dX0_init_0 rfl (lv_at hl 0 rfl) ?_
  refine W.objInit hx hb hown (hts _ tw_141) (hts _ tw_30) (hts _ tw_31) rfl (by rw [hml]; exact hl.1) rfl dX0_init_1 (Nat.le_of_ble_eq_true rfl) (Nat.le_of_ble_eq_true rfl) ?_
  refine W.eq (g2 := F0 m 4 ls []) rfl ?_
  refine lv_aload_n hx hb dX0_init_4 rfl (lv_at hl 0 rfl) ?_
  refine lv_bipush (v := 40) hx hb dX0_init_5 (by decide) ?_
  refine newaC (atype := .int) (ty := .int) (N' := 40) (a0 := (40, .inl (fun _ => 0))) hx hb (hts _ tw_159) rfl (fun C h => by cases h) hK hP hD hS hA 1 rfl (fun _ => rfl) (by decide) (by decide) (by decide) (Nat.le_of_ble_eq_true rfl) (Nat.le_of_ble_eq_true rfl) dX0_init_7 (fun q_1 H hP hD hS => ?_)
  have hP : va_P D classes [(h, .inr (0, [.null, .null, .null, .int 0, .int 0])), (q_1, .inl (cy 1, 40, .inl (fun _ => 0)))] H := hP
  have hD : va_D A [(h, .inr (0, [.null, .null, .null, .int 0, .int 0])), (q_1, .inl (cy 1, 40, .inl (fun _ => 0)))] := hD
  refine W.widen (k := 1) (n := 40) (Nat.le_of_ble_eq_true rfl) (Nat.le_of_ble_eq_true rfl) ?_
  refine va_putF (D := D) (ci := 0) (v := .ref q_1) (ty := .array .int) (C := RX0) (T := TX0) (N := 5) hx hb hts inX0 tyX0 tyX0_ok nmX0 hown hK hP hD hS 0 rfl rfl 0 (by decide) (hts _ tw_142) (fun _ h9 => h9) rfl hin rfl (by decide +kernel) rfl rfl (Nat.le_of_ble_eq_true rfl) dX0_init_9 (fun H locs hP hD hS => ?_)
  have hP : va_P D classes [(h, .inr (0, [.ref q_1, .null, .null, .int 0, .int 0])), (q_1, .inl (cy 1, 40, .inl (fun _ => 0)))] H := hP
  have hD : va_D A [(h, .inr (0, [.ref q_1, .null, .null, .int 0, .int 0])), (q_1, .inl (cy 1, 40, .inl (fun _ => 0)))] := hD
  refine lv_aload_n hx hb dX0_init_12 rfl (lv_at hl 0 rfl) ?_
  refine lv_bipush (v := 40) hx hb dX0_init_13 (by decide) ?_
  refine newaC (atype := .int) (ty := .int) (N' := 40) (a0 := (40, .inl (fun _ => 0))) hx hb (hts _ tw_159) rfl (fun C h => by cases h) hK hP hD hS hA 1 rfl (fun _ => rfl) (by decide) (by decide) (by decide) (Nat.le_of_ble_eq_true rfl) (Nat.le_of_ble_eq_true rfl) dX0_init_15 (fun q_2 H hP hD hS => ?_)
  have hP : va_P D classes [(h, .inr (0, [.ref q_1, .null, .null, .int 0, .int 0])), (q_1, .inl (cy 1, 40, .inl (fun _ => 0))), (q_2, .inl (cy 1, 40, .inl (fun _ => 0)))] H := hP
  have hD : va_D A [(h, .inr (0, [.ref q_1, .null, .null, .int 0, .int 0])), (q_1, .inl (cy 1, 40, .inl (fun _ => 0))), (q_2, .inl (cy 1, 40, .inl (fun _ => 0)))] := hD
  refine W.widen (k := 2) (n := 80) (Nat.le_of_ble_eq_true rfl) (Nat.le_of_ble_eq_true rfl) ?_
  refine va_putF (D := D) (ci := 0) (v := .ref q_2) (ty := .array .int) (C := RX0) (T := TX0) (N := 5) hx hb hts inX0 tyX0 tyX0_ok nmX0 hown hK hP hD hS 0 rfl rfl 1 (by decide) (hts _ tw_143) (fun _ h9 => h9) rfl hin rfl (by decide +kernel) rfl rfl (Nat.le_of_ble_eq_true rfl) dX0_init_17 (fun H locs hP hD hS => ?_)
  have hP : va_P D classes [(h, .inr (0, [.ref q_1, .ref q_2, .null, .int 0, .int 0])), (q_1, .inl (cy 1, 40, .inl (fun _ => 0))), (q_2, .inl (cy 1, 40, .inl (fun _ => 0)))] H := hP
  have hD : va_D A [(h, .inr (0, [.ref q_1, .ref q_2, .null, .int 0, .int 0])), (q_1, .inl (cy 1, 40, .inl (fun _ => 0))), (q_2, .inl (cy 1, 40, .inl (fun _ => 0)))] := hD
  refine lv_aload_n hx hb dX0_init_20 rfl (lv_at hl 0 rfl) ?_
  refine lv_bipush (v := 40) hx hb dX0_init_21 (by decide) ?_
  refine newaC (atype := .int) (ty := .int) (N' := 40) (a0 := (40, .inl (fun _ => 0))) hx hb (hts _ tw_159) rfl (fun C h => by cases h) hK hP hD hS hA 1 rfl (fun _ => rfl) (by decide) (by decide) (by decide) (Nat.le_of_ble_eq_true rfl) (Nat.le_of_ble_eq_true rfl) dX0_init_23 (fun q_3 H hP hD hS => ?_)
  have hP : va_P D classes [(h, .inr (0, [.ref q_1, .ref q_2, .null, .int 0, .int 0])), (q_1, .inl (cy 1, 40, .inl (fun _ => 0))), (q_2, .inl (cy 1, 40, .inl (fun _ => 0))), (q_3, .inl (cy 1, 40, .inl (fun _ => 0)))] H := hP
  have hD : va_D A [(h, .inr (0, [.ref q_1, .ref q_2, .null, .int 0, .int 0])), (q_1, .inl (cy 1, 40, .inl (fun _ => 0))), (q_2, .inl (cy 1, 40, .inl (fun _ => 0))), (q_3, .inl (cy 1, 40, .inl (fun _ => 0)))] := hD
  refine W.widen (k := 3) (n := 120) (Nat.le_of_ble_eq_true rfl) (Nat.le_of_ble_eq_true rfl) ?_
  refine va_putF (D := D) (ci := 0) (v := .ref q_3) (ty := .array .int) (C := RX0) (T := TX0) (N := 5) hx hb hts inX0 tyX0 tyX0_ok nmX0 hown hK hP hD hS 0 rfl rfl 2 (by decide) (hts _ tw_144) (fun _ h9 => h9) rfl hin rfl (by decide +kernel) rfl rfl (Nat.le_of_ble_eq_true rfl) dX0_init_25 (fun H locs hP hD hS => ?_)
  have hP : va_P D classes [(h, .inr (0, [.ref q_1, .ref q_2, .ref q_3, .int 0, .int 0])), (q_1, .inl (cy 1, 40, .inl (fun _ => 0))), (q_2, .inl (cy 1, 40, .inl (fun _ => 0))), (q_3, .inl (cy 1, 40, .inl (fun _ => 0)))] H := hP
  have hD : va_D A [(h, .inr (0, [.ref q_1, .ref q_2, .ref q_3, .int 0, .int 0])), (q_1, .inl (cy 1, 40, .inl (fun _ => 0))), (q_2, .inl (cy 1, 40, .inl (fun _ => 0))), (q_3, .inl (cy 1, 40, .inl (fun _ => 0)))] := hD
  refine lv_aload_n hx hb dX0_init_28 rfl (lv_at hl 0 rfl) ?_
  refine lv_iconst (v := 0) hx hb dX0_init_29 (by decide) ?_
  refine va_put (D := D) (ci := 0) (v := .int 0) (ty := .int) (C := RX0) (T := TX0) (N := 5) hx hb hts inX0 tyX0 tyX0_ok nmX0 hown hK hP hD hS 0 rfl rfl 3 (by decide) (hts _ tw_145) (fun _ h9 => h9) rfl (by decide +kernel) rfl rfl (Nat.le_of_ble_eq_true rfl) dX0_init_30 (fun H locs hP hD hS => ?_)
  have hP : va_P D classes [(h, .inr (0, [.ref q_1, .ref q_2, .ref q_3, .int 0, .int 0])), (q_1, .inl (cy 1, 40, .inl (fun _ => 0))), (q_2, .inl (cy 1, 40, .inl (fun _ => 0))), (q_3, .inl (cy 1, 40, .inl (fun _ => 0)))] H := hP
  have hD : va_D A [(h, .inr (0, [.ref q_1, .ref q_2, .ref q_3, .int 0, .int 0])), (q_1, .inl (cy 1, 40, .inl (fun _ => 0))), (q_2, .inl (cy 1, 40, .inl (fun _ => 0))), (q_3, .inl (cy 1, 40, .inl (fun _ => 0)))] := hD
  refine lv_aload_n hx hb dX0_init_33 rfl (lv_at hl 0 rfl) ?_
  refine lv_iconst (v := 0) hx hb dX0_init_34 (by decide) ?_
  refine va_put (D := D) (ci := 0) (v := .int 0) (ty := .int) (C := RX0) (T := TX0) (N := 5) hx hb hts inX0 tyX0 tyX0_ok nmX0 hown hK hP hD hS 0 rfl rfl 4 (by decide) (hts _ tw_146) (fun _ h9 => h9) rfl (by decide +kernel) rfl rfl (Nat.le_of_ble_eq_true rfl) dX0_init_35 (fun H locs hP hD hS => ?_)
  have hP : va_P D classes [(h, .inr (0, [.ref q_1, .ref q_2, .ref q_3, .int 0, .int 0])), (q_1, .inl (cy 1, 40, .inl (fun _ => 0))), (q_2, .inl (cy 1, 40, .inl (fun _ => 0))), (q_3, .inl (cy 1, 40, .inl (fun _ => 0)))] H := hP
  have hD : va_D A [(h, .inr (0, [.ref q_1, .ref q_2, .ref q_3, .int 0, .int 0])), (q_1, .inl (cy 1, 40, .inl (fun _ => 0))), (q_2, .inl (cy 1, 40, .inl (fun _ => 0))), (q_3, .inl (cy 1, 40, .inl (fun _ => 0)))] := hD
  have hP9 : va_P D classes [(h, .inr (0, [.ref q_1, .ref q_2, .ref q_3, .int 0, .int 0])), (q_1, .inl (cy 1, 40, .inl (fun _ => 0))), (q_2, .inl (cy 1, 40, .inl (fun _ => 0))), (q_3, .inl (cy 1, 40, .inl (fun _ => 0)))] H := subP hP [0, 1, 2, 3] rfl
  have hD9 : va_D A [(h, .inr (0, [.ref q_1, .ref q_2, .ref q_3, .int 0, .int 0])), (q_1, .inl (cy 1, 40, .inl (fun _ => 0))), (q_2, .inl (cy 1, 40, .inl (fun _ => 0))), (q_3, .inl (cy 1, 40, .inl (fun _ => 0)))] := hD.sub [0, 1, 2, 3] (by decide) rfl
  refine W.widen (k := 3) (n := 120) (Nat.le_of_ble_eq_true rfl) (Nat.le_of_ble_eq_true rfl) ?_
  exact W.vret hx hb hr (fun t ht hW => ⟨⟨((q_1), (q_2), (q_3)), rfl, trivial, by rw [ht]; exact hP9, va_K.moved hW.alike hK, hD9⟩, hS.F ht⟩) hS.2.2 dX0_init_38
set_option maxHeartbeats 4000000 in
set_option maxRecDepth 100000 in
theorem c_World_init (l : Launch) (D : va_G) (cy : Nat → ClassId) (z : Nat → Nat) (sz : Nat) (h : Nat) (pt : Nat) : Met l yX8_init (Cond.code yX8_init cX8_init 2 none :: gT) ({ frames := 2, cells := 10, slots := 98, locals := 400 } : Room) (va_Pc [.ref h, .ref pt] (PRE D cy z [(h, .inr (8, [.null, .int 0, .null, .null, .null, .null, .null, .null, .null, .null, .null, .null, .int 0]))] sz)) (va_Qv (fun (u : (Nat) × (Nat) × (Nat) × (Nat) × (Nat) × (Nat) × (Nat) × (Nat) × (Nat) × (Nat)) => True) (BB D cy (va_A [(h, .inr (8, [.null, .int 0, .null, .null, .null, .null, .null, .null, .null, .null, .null, .null, .int 0]))] sz) (fun (u : (Nat) × (Nat) × (Nat) × (Nat) × (Nat) × (Nat) × (Nat) × (Nat) × (Nat) × (Nat)) => [(h, .inr (8, [.ref pt, .int 0, .ref u.1, .ref u.2.1, .ref u.2.2.1, .ref u.2.2.2.1, .ref u.2.2.2.2.1, .ref u.2.2.2.2.2.1, .ref u.2.2.2.2.2.2.1, .ref u.2.2.2.2.2.2.2.1, .ref u.2.2.2.2.2.2.2.2.1, .ref u.2.2.2.2.2.2.2.2.2, .int 0])), (u.1, .inl (cy 1, 36, .inl (fun _ => 0))), (u.2.1, .inl (cy 1, 6, .inl (fun _ => 0))), (u.2.2.1, .inl (cy 1, 6, .inl (fun _ => 0))), (u.2.2.2.1, .inl (cy 1, 6, .inl (fun _ => 0))), (u.2.2.2.2.1, .inl (cy 1, 6, .inl (fun _ => 0))), (u.2.2.2.2.2.1, .inl (cy 1, 8, .inl (fun _ => 0))), (u.2.2.2.2.2.2.2.1, .inl (cy 1, 8, .inl (fun _ => 0))), (u.2.2.2.2.2.2.2.2.1, .inl (cy 1, 8, .inl (fun _ => 0))), (u.2.2.2.2.2.2.2.2.2, .inl (cy 1, 6, .inl (fun _ => 0))), (u.2.2.2.2.2.2.1, .inl (cy 1, 8, .inl (fun _ => (-1))))])) (va_A [(h, .inr (8, [.null, .int 0, .null, .null, .null, .null, .null, .null, .null, .null, .null, .null, .int 0]))] sz)) 10 98 (va_A [(h, .inr (8, [.null, .int 0, .null, .null, .null, .null, .null, .null, .null, .null, .null, .null, .int 0]))] sz) := by
  refine Met.ofW (cc := cX8_init) (maxL := 2) (ret := none) (by decide) rfl ?_
  intro p e s m args below meth c s₁ B hml hv
  obtain ⟨rfl, hsz, hP, hK, hD0, hSD⟩ := hv
  have hx := B.exec
  have hb := B.bytes
  have hr := B.returns
  have hlocks := B.notSynchronized
  have hts : ∀ w ∈ gT, w.before _ s = true := fun w h => atoms_spec (ws := Cond.code yX8_init cX8_init 2 none :: gT) B.pre w (List.mem_cons_of_mem _ h)
  have hown : s.vm.findClass RX8 = some m.cls := findClass_of_methodNamed B.named
  have hin : meth.name = "<init>" := (name_of_methodNamed B.named B.method).1
  subst hsz
  have hD := hD0.self (sz := s.heap.size)
  generalize hAe : va_A [(h, .inr (8, [.null, .int 0, .null, .null, .null, .null, .null, .null, .null, .null, .null, .null, .int 0]))] s.heap.size = A at hD hSD ⊢
  have hA : ∀ q : Nat, s.heap.size ≤ q → A q := fun q h => by rw [← hAe]; exact Or.inr h
  have hS : va_S A s.heap s.heap [] := va_S.rf
  have hl := lv_entry ([.ref h, .ref pt]) (n := 2) (Nat.le_of_ble_eq_true rfl)
  rw [lg_entry_eq]
  generalize (lg_sl ([.ref h, .ref pt]) ++ List.replicate (2 - (lg_sl ([.ref h, .ref pt])).length) Slot.unset).toArray = ls at hl ⊢
  have hl : lv_has ls 2 [(0, .ref h), (1, .ref pt)] := hl
  refine lv_aload_n hx hb dX8_init_0 rfl (lv_at hl 0 rfl) ?_
  refine W.objInit hx hb hown (hts _ tw_245) (hts _ tw_30) (hts _ tw_31) rfl (by rw [hml]; exact hl.1) rfl dX8_init_1 (Nat.le_of_ble_eq_true rfl) (Nat.le_of_ble_eq_true rfl) ?_
  refine W.eq (g2 := F0 m 4 ls []) rfl ?_
  refine lv_aload_n hx hb dX8_init_4 rfl (lv_at hl 0 rfl) ?_
  refine lv_bipush (v := 36) hx hb dX8_init_5 (by decide) ?_
  refine newaC (atype := .int) (ty := .int) (N' := 36) (a0 := (36, .inl (fun _ => 0))) hx hb (hts _ tw_159) rfl (fun C h => by cases h) hK hP hD hS hA 1 rfl (fun _ => rfl) (by decide) (by decide) (by decide) (Nat.le_of_ble_eq_true rfl) (Nat.le_of_ble_eq_true rfl) dX8_init_7 (fun q_1 H hP hD hS => ?_)
  have hP : va_P D classes [(h, .inr (8, [.null, .int 0, .null, .null, .null, .null, .null, .null, .null, .null, .null, .null, .int 0])), (q_1, .inl (cy 1, 36, .inl (fun _ => 0)))] H := hP
  have hD : va_D A [(h, .inr (8, [.null, .int 0, .null, .null, .null, .null, .null, .null, .null, .null, .null, .null, .int 0])), (q_1, .inl (cy 1, 36, .inl (fun _ => 0)))] := hD
  refine W.widen (k := 1) (n := 36) (Nat.le_of_ble_eq_true rfl) (Nat.le_of_ble_eq_true rfl) ?_
  refine va_putF (D := D) (ci := 8) (v := .ref q_1) (ty := .array .int) (C := RX8) (T := TX8) (N := 13) hx hb hts inX8 tyX8 tyX8_ok nmX8 hown hK hP hD hS 0 rfl rfl 2 (by decide) (hts _ tw_252) (fun _ h9 => h9) rfl hin rfl (by decide +kernel) rfl rfl (Nat.le_of_ble_eq_true rfl) dX8_init_9 (fun H locs hP hD hS => ?_)
  have hP : va_P D classes [(h, .inr (8, [.null, .int 0, .ref q_1, .null, .null, .null, .null, .null, .null, .null, .null, .null, .int 0])), (q_1, .inl (cy 1, 36, .inl (fun _ => 0)))] H := hP
  have hD : va_D A [(h, .inr (8, [.null, .int 0, .ref q_1, .null, .null, .null, .null, .null, .null, .null, .null, .null, .int 0])), (q_1, .inl (cy 1, 36, .inl (fun _ => 0)))] := hD
  refine lv_aload_n hx hb dX8_init_12 rfl (lv_at hl 0 rfl) ?_
  refine lv_bipush (v := 6) hx hb dX8_init_13 (by decide) ?_
  refine newaC (atype := .int) (ty := .int) (N' := 6) (a0 := (6, .inl (fun _ => 0))) hx hb (hts _ tw_159) rfl (fun C h => by cases h) hK hP hD hS hA 1 rfl (fun _ => rfl) (by decide) (by decide) (by decide) (Nat.le_of_ble_eq_true rfl) (Nat.le_of_ble_eq_true rfl) dX8_init_15 (fun q_2 H hP hD hS => ?_)
  have hP : va_P D classes [(h, .inr (8, [.null, .int 0, .ref q_1, .null, .null, .null, .null, .null, .null, .null, .null, .null, .int 0])), (q_1, .inl (cy 1, 36, .inl (fun _ => 0))), (q_2, .inl (cy 1, 6, .inl (fun _ => 0)))] H := hP
  have hD : va_D A [(h, .inr (8, [.null, .int 0, .ref q_1, .null, .null, .null, .null, .null, .null, .null, .null, .null, .int 0])), (q_1, .inl (cy 1, 36, .inl (fun _ => 0))), (q_2, .inl (cy 1, 6, .inl (fun _ => 0)))] := hD
  refine W.widen (k := 2) (n := 42) (Nat.le_of_ble_eq_true rfl) (Nat.le_of_ble_eq_true rfl) ?_
  refine va_putF (D := D) (ci := 8) (v := .ref q_2) (ty := .array .int) (C := RX8) (T := TX8) (N := 13) hx hb hts inX8 tyX8 tyX8_ok nmX8 hown hK hP hD hS 0 rfl rfl 3 (by decide) (hts _ tw_253) (fun _ h9 => h9) rfl hin rfl (by decide +kernel) rfl rfl (Nat.le_of_ble_eq_true rfl) dX8_init_17 (fun H locs hP hD hS => ?_)
  have hP : va_P D classes [(h, .inr (8, [.null, .int 0, .ref q_1, .ref q_2, .null, .null, .null, .null, .null, .null, .null, .null, .int 0])), (q_1, .inl (cy 1, 36, .inl (fun _ => 0))), (q_2, .inl (cy 1, 6, .inl (fun _ => 0)))] H := hP
  have hD : va_D A [(h, .inr (8, [.null, .int 0, .ref q_1, .ref q_2, .null, .null, .null, .null, .null, .null, .null, .null, .int 0])), (q_1, .inl (cy 1, 36, .inl (fun _ => 0))), (q_2, .inl (cy 1, 6, .inl (fun _ => 0)))] := hD
  refine lv_aload_n hx hb dX8_init_20 rfl (lv_at hl 0 rfl) ?_
  refine lv_bipush (v := 6) hx hb dX8_init_21 (by decide) ?_
  refine newaC (atype := .int) (ty := .int) (N' := 6) (a0 := (6, .inl (fun _ => 0))) hx hb (hts _ tw_159) rfl (fun C h => by cases h) hK hP hD hS hA 1 rfl (fun _ => rfl) (by decide) (by decide) (by decide) (Nat.le_of_ble_eq_true rfl) (Nat.le_of_ble_eq_true rfl) dX8_init_23 (fun q_3 H hP hD hS => ?_)
  have hP : va_P D classes [(h, .inr (8, [.null, .int 0, .ref q_1, .ref q_2, .null, .null, .null, .null, .null, .null, .null, .null, .int 0])), (q_1, .inl (cy 1, 36, .inl (fun _ => 0))), (q_2, .inl (cy 1, 6, .inl (fun _ => 0))), (q_3, .inl (cy 1, 6, .inl (fun _ => 0)))] H := hP
  have hD : va_D A [(h, .inr (8, [.null, .int 0, .ref q_1, .ref q_2, .null, .null, .null, .null, .null, .null, .null, .null, .int 0])), (q_1, .inl (cy 1, 36, .inl (fun _ => 0))), (q_2, .inl (cy 1, 6, .inl (fun _ => 0))), (q_3, .inl (cy 1, 6, .inl (fun _ => 0)))] := hD
  refine W.widen (k := 3) (n := 48) (Nat.le_of_ble_eq_true rfl) (Nat.le_of_ble_eq_true rfl) ?_
  refine va_putF (D := D) (ci := 8) (v := .ref q_3) (ty := .array .int) (C := RX8) (T := TX8) (N := 13) hx hb hts inX8 tyX8 tyX8_ok nmX8 hown hK hP hD hS 0 rfl rfl 4 (by decide) (hts _ tw_257) (fun _ h9 => h9) rfl hin rfl (by decide +kernel) rfl rfl (Nat.le_of_ble_eq_true rfl) dX8_init_25 (fun H locs hP hD hS => ?_)
  have hP : va_P D classes [(h, .inr (8, [.null, .int 0, .ref q_1, .ref q_2, .ref q_3, .null, .null, .null, .null, .null, .null, .null, .int 0])), (q_1, .inl (cy 1, 36, .inl (fun _ => 0))), (q_2, .inl (cy 1, 6, .inl (fun _ => 0))), (q_3, .inl (cy 1, 6, .inl (fun _ => 0)))] H := hP
  have hD : va_D A [(h, .inr (8, [.null, .int 0, .ref q_1, .ref q_2, .ref q_3, .null, .null, .null, .null, .null, .null, .null, .int 0])), (q_1, .inl (cy 1, 36, .inl (fun _ => 0))), (q_2, .inl (cy 1, 6, .inl (fun _ => 0))), (q_3, .inl (cy 1, 6, .inl (fun _ => 0)))] := hD
  refine lv_aload_n hx hb dX8_init_28 rfl (lv_at hl 0 rfl) ?_
  refine lv_bipush (v := 6) hx hb dX8_init_29 (by decide) ?_
  refine newaC (atype := .int) (ty := .int) (N' := 6) (a0 := (6, .inl (fun _ => 0))) hx hb (hts _ tw_159) rfl (fun C h => by cases h) hK hP hD hS hA 1 rfl (fun _ => rfl) (by decide) (by decide) (by decide) (Nat.le_of_ble_eq_true rfl) (Nat.le_of_ble_eq_true rfl) dX8_init_31 (fun q_4 H hP hD hS => ?_)
  have hP : va_P D classes [(h, .inr (8, [.null, .int 0, .ref q_1, .ref q_2, .ref q_3, .null, .null, .null, .null, .null, .null, .null, .int 0])), (q_1, .inl (cy 1, 36, .inl (fun _ => 0))), (q_2, .inl (cy 1, 6, .inl (fun _ => 0))), (q_3, .inl (cy 1, 6, .inl (fun _ => 0))), (q_4, .inl (cy 1, 6, .inl (fun _ => 0)))] H := hP
  have hD : va_D A [(h, .inr (8, [.null, .int 0, .ref q_1, .ref q_2, .ref q_3, .null, .null, .null, .null, .null, .null, .null, .int 0])), (q_1, .inl (cy 1, 36, .inl (fun _ => 0))), (q_2, .inl (cy 1, 6, .inl (fun _ => 0))), (q_3, .inl (cy 1, 6, .inl (fun _ => 0))), (q_4, .inl (cy 1, 6, .inl (fun _ => 0)))] := hD
  refine W.widen (k := 4) (n := 54) (Nat.le_of_ble_eq_true rfl) (Nat.le_of_ble_eq_true rfl) ?_
  refine va_putF (D := D) (ci := 8) (v := .ref q_4) (ty := .array .int) (C := RX8) (T := TX8) (N := 13) hx hb hts inX8 tyX8 tyX8_ok nmX8 hown hK hP hD hS 0 rfl rfl 5 (by decide) (hts _ tw_260) (fun _ h9 => h9) rfl hin rfl (by decide +kernel) rfl rfl (Nat.le_of_ble_eq_true rfl) dX8_init_33 (fun H locs hP hD hS => ?_)
  have hP : va_P D classes [(h, .inr (8, [.null, .int 0, .ref q_1, .ref q_2, .ref q_3, .ref q_4, .null, .null, .null, .null, .null, .null, .int 0])), (q_1, .inl (cy 1, 36, .inl (fun _ => 0))), (q_2, .inl (cy 1, 6, .inl (fun _ => 0))), (q_3, .inl (cy 1, 6, .inl (fun _ => 0))), (q_4, .inl (cy 1, 6, .inl (fun _ => 0)))] H := hP
  have hD : va_D A [(h, .inr (8, [.null, .int 0, .ref q_1, .ref q_2, .ref q_3, .ref q_4, .null, .null, .null, .null, .null, .null, .int 0])), (q_1, .inl (cy 1, 36, .inl (fun _ => 0))), (q_2, .inl (cy 1, 6, .inl (fun _ => 0))), (q_3, .inl (cy 1, 6, .inl (fun _ => 0))), (q_4, .inl (cy 1, 6, .inl (fun _ => 0)))] := hD
  refine lv_aload_n hx hb dX8_init_36 rfl (lv_at hl 0 rfl) ?_
  refine lv_bipush (v := 6) hx hb dX8_init_37 (by decide) ?_
  refine newaC (atype := .int) (ty := .int) (N' := 6) (a0 := (6, .inl (fun _ => 0))) hx hb (hts _ tw_159) rfl (fun C h => by cases h) hK hP hD hS hA 1 rfl (fun _ => rfl) (by decide) (by decide) (by decide) (Nat.le_of_ble_eq_true rfl) (Nat.le_of_ble_eq_true rfl) dX8_init_39 (fun q_5 H hP hD hS => ?_)
  have hP : va_P D classes [(h, .inr (8, [.null, .int 0, .ref q_1, .ref q_2, .ref q_3, .ref q_4, .null, .null, .null, .null, .null, .null, .int 0])), (q_1, .inl (cy 1, 36, .inl (fun _ => 0))), (q_2, .inl (cy 1, 6, .inl (fun _ => 0))), (q_3, .inl (cy 1, 6, .inl (fun _ => 0))), (q_4, .inl (cy 1, 6, .inl (fun _ => 0))), (q_5, .inl (cy 1, 6, .inl (fun _ => 0)))] H := hP
  have hD : va_D A [(h, .inr (8, [.null, .int 0, .ref q_1, .ref q_2, .ref q_3, .ref q_4, .null, .null, .null, .null, .null, .null, .int 0])), (q_1, .inl (cy 1, 36, .inl (fun _ => 0))), (q_2, .inl (cy 1, 6, .inl (fun _ => 0))), (q_3, .inl (cy 1, 6, .inl (fun _ => 0))), (q_4, .inl (cy 1, 6, .inl (fun _ => 0))), (q_5, .inl (cy 1, 6, .inl (fun _ => 0)))] := hD
  refine W.widen (k := 5) (n := 60) (Nat.le_of_ble_eq_true rfl) (Nat.le_of_ble_eq_true rfl) ?_
  refine va_putF (D := D) (ci := 8) (v := .ref q_5) (ty := .array .int) (C := RX8) (T := TX8) (N := 13) hx hb hts inX8 tyX8 tyX8_ok nmX8 hown hK hP hD hS 0 rfl rfl 6 (by decide) (hts _ tw_262) (fun _ h9 => h9) rfl hin rfl (by decide +kernel) rfl rfl (Nat.le_of_ble_eq_true rfl) dX8_init_41 (fun H locs hP hD hS => ?_)
  have hP : va_P D classes [(h, .inr (8, [.null, .int 0, .ref q_1, .ref q_2, .ref q_3, .ref q_4, .ref q_5, .null, .null, .null, .null, .null, .int 0])), (q_1, .inl (cy 1, 36, .inl (fun _ => 0))), (q_2, .inl (cy 1, 6, .inl (fun _ => 0))), (q_3, .inl (cy 1, 6, .inl (fun _ => 0))), (q_4, .inl (cy 1, 6, .inl (fun _ => 0))), (q_5, .inl (cy 1, 6, .inl (fun _ => 0)))] H := hP
  have hD : va_D A [(h, .inr (8, [.null, .int 0, .ref q_1, .ref q_2, .ref q_3, .ref q_4, .ref q_5, .null, .null, .null, .null, .null, .int 0])), (q_1, .inl (cy 1, 36, .inl (fun _ => 0))), (q_2, .inl (cy 1, 6, .inl (fun _ => 0))), (q_3, .inl (cy 1, 6, .inl (fun _ => 0))), (q_4, .inl (cy 1, 6, .inl (fun _ => 0))), (q_5, .inl (cy 1, 6, .inl (fun _ => 0)))] := hD
  refine lv_aload_n hx hb dX8_init_44 rfl (lv_at hl 0 rfl) ?_
  refine lv_bipush (v := 8) hx hb dX8_init_45 (by decide) ?_
  refine newaC (atype := .int) (ty := .int) (N' := 8) (a0 := (8, .inl (fun _ => 0))) hx hb (hts _ tw_159) rfl (fun C h => by cases h) hK hP hD hS hA 1 rfl (fun _ => rfl) (by decide) (by decide) (by decide) (Nat.le_of_ble_eq_true rfl) (Nat.le_of_ble_eq_true rfl) dX8_init_47 (fun q_6 H hP hD hS => ?_)
  have hP : va_P D classes [(h, .inr (8, [.null, .int 0, .ref q_1, .ref q_2, .ref q_3, .ref q_4, .ref q_5, .null, .null, .null, .null, .null, .int 0])), (q_1, .inl (cy 1, 36, .inl (fun _ => 0))), (q_2, .inl (cy 1, 6, .inl (fun _ => 0))), (q_3, .inl (cy 1, 6, .inl (fun _ => 0))), (q_4, .inl (cy 1, 6, .inl (fun _ => 0))), (q_5, .inl (cy 1, 6, .inl (fun _ => 0))), (q_6, .inl (cy 1, 8, .inl (fun _ => 0)))] H := hP
  have hD : va_D A [(h, .inr (8, [.null, .int 0, .ref q_1, .ref q_2, .ref q_3, .ref q_4, .ref q_5, .null, .null, .null, .null, .null, .int 0])), (q_1, .inl (cy 1, 36, .inl (fun _ => 0))), (q_2, .inl (cy 1, 6, .inl (fun _ => 0))), (q_3, .inl (cy 1, 6, .inl (fun _ => 0))), (q_4, .inl (cy 1, 6, .inl (fun _ => 0))), (q_5, .inl (cy 1, 6, .inl (fun _ => 0))), (q_6, .inl (cy 1, 8, .inl (fun _ => 0)))] := hD
  refine W.widen (k := 6) (n := 68) (Nat.le_of_ble_eq_true rfl) (Nat.le_of_ble_eq_true rfl) ?_
  refine va_putF (D := D) (ci := 8) (v := .ref q_6) (ty := .array .int) (C := RX8) (T := TX8) (N := 13) hx hb hts inX8 tyX8 tyX8_ok nmX8 hown hK hP hD hS 0 rfl rfl 7 (by decide) (hts _ tw_265) (fun _ h9 => h9) rfl hin rfl (by decide +kernel) rfl rfl (Nat.le_of_ble_eq_true rfl) dX8_init_49 (fun H locs hP hD hS => ?_)
  have hP : va_P D classes [(h, .inr (8, [.null, .int 0, .ref q_1, .ref q_2, .ref q_3, .ref q_4, .ref q_5, .ref q_6, .null, .null, .null, .null, .int 0])), (q_1, .inl (cy 1, 36, .inl (fun _ => 0))), (q_2, .inl (cy 1, 6, .inl (fun _ => 0))), (q_3, .inl (cy 1, 6, .inl (fun _ => 0))), (q_4, .inl (cy 1, 6, .inl (fun _ => 0))), (q_5, .inl (cy 1, 6, .inl (fun _ => 0))), (q_6, .inl (cy 1, 8, .inl (fun _ => 0)))] H := hP
  have hD : va_D A [(h, .inr (8, [.null, .int 0, .ref q_1, .ref q_2, .ref q_3, .ref q_4, .ref q_5, .ref q_6, .null, .null, .null, .null, .int 0])), (q_1, .inl (cy 1, 36, .inl (fun _ => 0))), (q_2, .inl (cy 1, 6, .inl (fun _ => 0))), (q_3, .inl (cy 1, 6, .inl (fun _ => 0))), (q_4, .inl (cy 1, 6, .inl (fun _ => 0))), (q_5, .inl (cy 1, 6, .inl (fun _ => 0))), (q_6, .inl (cy 1, 8, .inl (fun _ => 0)))] := hD
  refine lv_aload_n hx hb dX8_init_52 rfl (lv_at hl 0 rfl) ?_
  refine lv_bipush (v := 8) hx hb dX8_init_53 (by decide) ?_
  refine newaC (atype := .int) (ty := .int) (N' := 8) (a0 := (8, .inl (fun _ => 0))) hx hb (hts _ tw_159) rfl (fun C h => by cases h) hK hP hD hS hA 1 rfl (fun _ => rfl) (by decide) (by decide) (by decide) (Nat.le_of_ble_eq_true rfl) (Nat.le_of_ble_eq_true rfl) dX8_init_55 (fun q_7 H hP hD hS => ?_)
  have hP : va_P D classes [(h, .inr (8, [.null, .int 0, .ref q_1, .ref q_2, .ref q_3, .ref q_4, .ref q_5, .ref q_6, .null, .null, .null, .null, .int 0])), (q_1, .inl (cy 1, 36, .inl (fun _ => 0))), (q_2, .inl (cy 1, 6, .inl (fun _ => 0))), (q_3, .inl (cy 1, 6, .inl (fun _ => 0))), (q_4, .inl (cy 1, 6, .inl (fun _ => 0))), (q_5, .inl (cy 1, 6, .inl (fun _ => 0))), (q_6, .inl (cy 1, 8, .inl (fun _ => 0))), (q_7, .inl (cy 1, 8, .inl (fun _ => 0)))] H := hP
  have hD : va_D A [(h, .inr (8, [.null, .int 0, .ref q_1, .ref q_2, .ref q_3, .ref q_4, .ref q_5, .ref q_6, .null, .null, .null, .null, .int 0])), (q_1, .inl (cy 1, 36, .inl (fun _ => 0))), (q_2, .inl (cy 1, 6, .inl (fun _ => 0))), (q_3, .inl (cy 1, 6, .inl (fun _ => 0))), (q_4, .inl (cy 1, 6, .inl (fun _ => 0))), (q_5, .inl (cy 1, 6, .inl (fun _ => 0))), (q_6, .inl (cy 1, 8, .inl (fun _ => 0))), (q_7, .inl (cy 1, 8, .inl (fun _ => 0)))] := hD
  refine W.widen (k := 7) (n := 76) (Nat.le_of_ble_eq_true rfl) (Nat.le_of_ble_eq_true rfl) ?_
  refine va_putF (D := D) (ci := 8) (v := .ref q_7) (ty := .array .int) (C := RX8) (T := TX8) (N := 13) hx hb hts inX8 tyX8 tyX8_ok nmX8 hown hK hP hD hS 0 rfl rfl 8 (by decide) (hts _ tw_268) (fun _ h9 => h9) rfl hin rfl (by decide +kernel) rfl rfl (Nat.le_of_ble_eq_true rfl) dX8_init_57 (fun H locs hP hD hS => ?_)
  have hP : va_P D classes [(h, .inr (8, [.null, .int 0, .ref q_1, .ref q_2, .ref q_3, .ref q_4, .ref q_5, .ref q_6, .ref q_7, .null, .null, .null, .int 0])), (q_1, .inl (cy 1, 36, .inl (fun _ => 0))), (q_2, .inl (cy 1, 6, .inl (fun _ => 0))), (q_3, .inl (cy 1, 6, .inl (fun _ => 0))), (q_4, .inl (cy 1, 6, .inl (fun _ => 0))), (q_5, .inl (cy 1, 6, .inl (fun _ => 0))), (q_6, .inl (cy 1, 8, .inl (fun _ => 0))), (q_7, .inl (cy 1, 8, .inl (fun _ => 0)))] H := hP
  have hD : va_D A [(h, .inr (8, [.null, .int 0, .ref q_1, .ref q_2, .ref q_3, .ref q_4, .ref q_5, .ref q_6, .ref q_7, .null, .null, .null, .int 0])), (q_1, .inl (cy 1, 36, .inl (fun _ => 0))), (q_2, .inl (cy 1, 6, .inl (fun _ => 0))), (q_3, .inl (cy 1, 6, .inl (fun _ => 0))), (q_4, .inl (cy 1, 6, .inl (fun _ => 0))), (q_5, .inl (cy 1, 6, .inl (fun _ => 0))), (q_6, .inl (cy 1, 8, .inl (fun _ => 0))), (q_7, .inl (cy 1, 8, .inl (fun _ => 0)))] := hD
  refine lv_aload_n hx hb dX8_init_60 rfl (lv_at hl 0 rfl) ?_
  refine lv_bipush (v := 8) hx hb dX8_init_61 (by decide) ?_
  refine newaC (atype := .int) (ty := .int) (N' := 8) (a0 := (8, .inl (fun _ => 0))) hx hb (hts _ tw_159) rfl (fun C h => by cases h) hK hP hD hS hA 1 rfl (fun _ => rfl) (by decide) (by decide) (by decide) (Nat.le_of_ble_eq_true rfl) (Nat.le_of_ble_eq_true rfl) dX8_init_63 (fun q_8 H hP hD hS => ?_)
  have hP : va_P D classes [(h, .inr (8, [.null, .int 0, .ref q_1, .ref q_2, .ref q_3, .ref q_4, .ref q_5, .ref q_6, .ref q_7, .null, .null, .null, .int 0])), (q_1, .inl (cy 1, 36, .inl (fun _ => 0))), (q_2, .inl (cy 1, 6, .inl (fun _ => 0))), (q_3, .inl (cy 1, 6, .inl (fun _ => 0))), (q_4, .inl (cy 1, 6, .inl (fun _ => 0))), (q_5, .inl (cy 1, 6, .inl (fun _ => 0))), (q_6, .inl (cy 1, 8, .inl (fun _ => 0))), (q_7, .inl (cy 1, 8, .inl (fun _ => 0))), (q_8, .inl (cy 1, 8, .inl (fun _ => 0)))] H := hP
  have hD : va_D A [(h, .inr (8, [.null, .int 0, .ref q_1, .ref q_2, .ref q_3, .ref q_4, .ref q_5, .ref q_6, .ref q_7, .null, .null, .null, .int 0])), (q_1, .inl (cy 1, 36, .inl (fun _ => 0))), (q_2, .inl (cy 1, 6, .inl (fun _ => 0))), (q_3, .inl (cy 1, 6, .inl (fun _ => 0))), (q_4, .inl (cy 1, 6, .inl (fun _ => 0))), (q_5, .inl (cy 1, 6, .inl (fun _ => 0))), (q_6, .inl (cy 1, 8, .inl (fun _ => 0))), (q_7, .inl (cy 1, 8, .inl (fun _ => 0))), (q_8, .inl (cy 1, 8, .inl (fun _ => 0)))] := hD
  refine W.widen (k := 8) (n := 84) (Nat.le_of_ble_eq_true rfl) (Nat.le_of_ble_eq_true rfl) ?_
  refine va_putF (D := D) (ci := 8) (v := .ref q_8) (ty := .array .int) (C := RX8) (T := TX8) (N := 13) hx hb hts inX8 tyX8 tyX8_ok nmX8 hown hK hP hD hS 0 rfl rfl 9 (by decide) (hts _ tw_271) (fun _ h9 => h9) rfl hin rfl (by decide +kernel) rfl rfl (Nat.le_of_ble_eq_true rfl) dX8_init_65 (fun H locs hP hD hS => ?_)
  have hP : va_P D classes [(h, .inr (8, [.null, .int 0, .ref q_1, .ref q_2, .ref q_3, .ref q_4, .ref q_5, .ref q_6, .ref q_7, .ref q_8, .null, .null, .int 0])), (q_1, .inl (cy 1, 36, .inl (fun _ => 0))), (q_2, .inl (cy 1, 6, .inl (fun _ => 0))), (q_3, .inl (cy 1, 6, .inl (fun _ => 0))), (q_4, .inl (cy 1, 6, .inl (fun _ => 0))), (q_5, .inl (cy 1, 6, .inl (fun _ => 0))), (q_6, .inl (cy 1, 8, .inl (fun _ => 0))), (q_7, .inl (cy 1, 8, .inl (fun _ => 0))), (q_8, .inl (cy 1, 8, .inl (fun _ => 0)))] H := hP
  have hD : va_D A [(h, .inr (8, [.null, .int 0, .ref q_1, .ref q_2, .ref q_3, .ref q_4, .ref q_5, .ref q_6, .ref q_7, .ref q_8, .null, .null, .int 0])), (q_1, .inl (cy 1, 36, .inl (fun _ => 0))), (q_2, .inl (cy 1, 6, .inl (fun _ => 0))), (q_3, .inl (cy 1, 6, .inl (fun _ => 0))), (q_4, .inl (cy 1, 6, .inl (fun _ => 0))), (q_5, .inl (cy 1, 6, .inl (fun _ => 0))), (q_6, .inl (cy 1, 8, .inl (fun _ => 0))), (q_7, .inl (cy 1, 8, .inl (fun _ => 0))), (q_8, .inl (cy 1, 8, .inl (fun _ => 0)))] := hD
  refine lv_aload_n hx hb dX8_init_68 rfl (lv_at hl 0 rfl) ?_
  refine lv_bipush (v := 8) hx hb dX8_init_69 (by decide) ?_
  refine newaC (atype := .int) (ty := .int) (N' := 8) (a0 := (8, .inl (fun _ => 0))) hx hb (hts _ tw_159) rfl (fun C h => by cases h) hK hP hD hS hA 1 rfl (fun _ => rfl) (by decide) (by decide) (by decide) (Nat.le_of_ble_eq_true rfl) (Nat.le_of_ble_eq_true rfl) dX8_init_71 (fun q_9 H hP hD hS => ?_)
  have hP : va_P D classes [(h, .inr (8, [.null, .int 0, .ref q_1, .ref q_2, .ref q_3, .ref q_4, .ref q_5, .ref q_6, .ref q_7, .ref q_8, .null, .null, .int 0])), (q_1, .inl (cy 1, 36, .inl (fun _ => 0))), (q_2, .inl (cy 1, 6, .inl (fun _ => 0))), (q_3, .inl (cy 1, 6, .inl (fun _ => 0))), (q_4, .inl (cy 1, 6, .inl (fun _ => 0))), (q_5, .inl (cy 1, 6, .inl (fun _ => 0))), (q_6, .inl (cy 1, 8, .inl (fun _ => 0))), (q_7, .inl (cy 1, 8, .inl (fun _ => 0))), (q_8, .inl (cy 1, 8, .inl (fun _ => 0))), (q_9, .inl (cy 1, 8, .inl (fun _ => 0)))] H := hP
  have hD : va_D A [(h, .inr (8, [.null, .int 0, .ref q_1, .ref q_2, .ref q_3, .ref q_4, .ref q_5, .ref q_6, .ref q_7, .ref q_8, .null, .null, .int 0])), (q_1, .inl (cy 1, 36, .inl (fun _ => 0))), (q_2, .inl (cy 1, 6, .inl (fun _ => 0))), (q_3, .inl (cy 1, 6, .inl (fun _ => 0))), (q_4, .inl (cy 1, 6, .inl (fun _ => 0))), (q_5, .inl (cy 1, 6, .inl (fun _ => 0))), (q_6, .inl (cy 1, 8, .inl (fun _ => 0))), (q_7, .inl (cy 1, 8, .inl (fun _ => 0))), (q_8, .inl (cy 1, 8, .inl (fun _ => 0))), (q_9, .inl (cy 1, 8, .inl (fun _ => 0)))] := hD
  refine W.widen (k := 9) (n := 92) (Nat.le_of_ble_eq_true rfl) (Nat.le_of_ble_eq_true rfl) ?_
  refine va_putF (D := D) (ci := 8) (v := .ref q_9) (ty := .array .int) (C := RX8) (T := TX8) (N := 13) hx hb hts inX8 tyX8 tyX8_ok nmX8 hown hK hP hD hS 0 rfl rfl 10 (by decide) (hts _ tw_273) (fun _ h9 => h9) rfl hin rfl (by decide +kernel) rfl rfl (Nat.le_of_ble_eq_true rfl) dX8_init_73 (fun H locs hP hD hS => ?_)
  have hP : va_P D classes [(h, .inr (8, [.null, .int 0, .ref q_1, .ref q_2, .ref q_3, .ref q_4, .ref q_5, .ref q_6, .ref q_7, .ref q_8, .ref q_9, .null, .int 0])), (q_1, .inl (cy 1, 36, .inl (fun _ => 0))), (q_2, .inl (cy 1, 6, .inl (fun _ => 0))), (q_3, .inl (cy 1, 6, .inl (fun _ => 0))), (q_4, .inl (cy 1, 6, .inl (fun _ => 0))), (q_5, .inl (cy 1, 6, .inl (fun _ => 0))), (q_6, .inl (cy 1, 8, .inl (fun _ => 0))), (q_7, .inl (cy 1, 8, .inl (fun _ => 0))), (q_8, .inl (cy 1, 8, .inl (fun _ => 0))), (q_9, .inl (cy 1, 8, .inl (fun _ => 0)))] H := hP
  have hD : va_D A [(h, .inr (8, [.null, .int 0, .ref q_1, .ref q_2, .ref q_3, .ref q_4, .ref q_5, .ref q_6, .ref q_7, .ref q_8, .ref q_9, .null, .int 0])), (q_1, .inl (cy 1, 36, .inl (fun _ => 0))), (q_2, .inl (cy 1, 6, .inl (fun _ => 0))), (q_3, .inl (cy 1, 6, .inl (fun _ => 0))), (q_4, .inl (cy 1, 6, .inl (fun _ => 0))), (q_5, .inl (cy 1, 6, .inl (fun _ => 0))), (q_6, .inl (cy 1, 8, .inl (fun _ => 0))), (q_7, .inl (cy 1, 8, .inl (fun _ => 0))), (q_8, .inl (cy 1, 8, .inl (fun _ => 0))), (q_9, .inl (cy 1, 8, .inl (fun _ => 0)))] := hD
  refine lv_aload_n hx hb dX8_init_76 rfl (lv_at hl 0 rfl) ?_
  refine lv_bipush (v := 6) hx hb dX8_init_77 (by decide) ?_
  refine newaC (atype := .int) (ty := .int) (N' := 6) (a0 := (6, .inl (fun _ => 0))) hx hb (hts _ tw_159) rfl (fun C h => by cases h) hK hP hD hS hA 1 rfl (fun _ => rfl) (by decide) (by decide) (by decide) (Nat.le_of_ble_eq_true rfl) (Nat.le_of_ble_eq_true rfl) dX8_init_79 (fun q_10 H hP hD hS => ?_)
  have hP : va_P D classes [(h, .inr (8, [.null, .int 0, .ref q_1, .ref q_2, .ref q_3, .ref q_4, .ref q_5, .ref q_6, .ref q_7, .ref q_8, .ref q_9, .null, .int 0])), (q_1, .inl (cy 1, 36, .inl (fun _ => 0))), (q_2, .inl (cy 1, 6, .inl (fun _ => 0))), (q_3, .inl (cy 1, 6, .inl (fun _ => 0))), (q_4, .inl (cy 1, 6, .inl (fun _ => 0))), (q_5, .inl (cy 1, 6, .inl (fun _ => 0))), (q_6, .inl (cy 1, 8, .inl (fun _ => 0))), (q_7, .inl (cy 1, 8, .inl (fun _ => 0))), (q_8, .inl (cy 1, 8, .inl (fun _ => 0))), (q_9, .inl (cy 1, 8, .inl (fun _ => 0))), (q_10, .inl (cy 1, 6, .inl (fun _ => 0)))] H := hP
  have hD : va_D A [(h, .inr (8, [.null, .int 0, .ref q_1, .ref q_2, .ref q_3, .ref q_4, .ref q_5, .ref q_6, .ref q_7, .ref q_8, .ref q_9, .null, .int 0])), (q_1, .inl (cy 1, 36, .inl (fun _ => 0))), (q_2, .inl (cy 1, 6, .inl (fun _ => 0))), (q_3, .inl (cy 1, 6, .inl (fun _ => 0))), (q_4, .inl (cy 1, 6, .inl (fun _ => 0))), (q_5, .inl (cy 1, 6, .inl (fun _ => 0))), (q_6, .inl (cy 1, 8, .inl (fun _ => 0))), (q_7, .inl (cy 1, 8, .inl (fun _ => 0))), (q_8, .inl (cy 1, 8, .inl (fun _ => 0))), (q_9, .inl (cy 1, 8, .inl (fun _ => 0))), (q_10, .inl (cy 1, 6, .inl (fun _ => 0)))] := hD
  refine W.widen (k := 10) (n := 98) (Nat.le_of_ble_eq_true rfl) (Nat.le_of_ble_eq_true rfl) ?_
  refine va_putF (D := D) (ci := 8) (v := .ref q_10) (ty := .array .int) (C := RX8) (T := TX8) (N := 13) hx hb hts inX8 tyX8 tyX8_ok nmX8 hown hK hP hD hS 0 rfl rfl 11 (by decide) (hts _ tw_275) (fun _ h9 => h9) rfl hin rfl (by decide +kernel) rfl rfl (Nat.le_of_ble_eq_true rfl) dX8_init_81 (fun H locs hP hD hS => ?_)
  have hP : va_P D classes [(h, .inr (8, [.null, .int 0, .ref q_1, .ref q_2, .ref q_3, .ref q_4, .ref q_5, .ref q_6, .ref q_7, .ref q_8, .ref q_9, .ref q_10, .int 0])), (q_1, .inl (cy 1, 36, .inl (fun _ => 0))), (q_2, .inl (cy 1, 6, .inl (fun _ => 0))), (q_3, .inl (cy 1, 6, .inl (fun _ => 0))), (q_4, .inl (cy 1, 6, .inl (fun _ => 0))), (q_5, .inl (cy 1, 6, .inl (fun _ => 0))), (q_6, .inl (cy 1, 8, .inl (fun _ => 0))), (q_7, .inl (cy 1, 8, .inl (fun _ => 0))), (q_8, .inl (cy 1, 8, .inl (fun _ => 0))), (q_9, .inl (cy 1, 8, .inl (fun _ => 0))), (q_10, .inl (cy 1, 6, .inl (fun _ => 0)))] H := hP
  have hD : va_D A [(h, .inr (8, [.null, .int 0, .ref q_1, .ref q_2, .ref q_3, .ref q_4, .ref q_5, .ref q_6, .ref q_7, .ref q_8, .ref q_9, .ref q_10, .int 0])), (q_1, .inl (cy 1, 36, .inl (fun _ => 0))), (q_2, .inl (cy 1, 6, .inl (fun _ => 0))), (q_3, .inl (cy 1, 6, .inl (fun _ => 0))), (q_4, .inl (cy 1, 6, .inl (fun _ => 0))), (q_5, .inl (cy 1, 6, .inl (fun _ => 0))), (q_6, .inl (cy 1, 8, .inl (fun _ => 0))), (q_7, .inl (cy 1, 8, .inl (fun _ => 0))), (q_8, .inl (cy 1, 8, .inl (fun _ => 0))), (q_9, .inl (cy 1, 8, .inl (fun _ => 0))), (q_10, .inl (cy 1, 6, .inl (fun _ => 0)))] := hD
  refine lv_aload_n hx hb dX8_init_84 rfl (lv_at hl 0 rfl) ?_
  refine lv_aload_n hx hb dX8_init_85 rfl (lv_at hl 1 rfl) ?_
  refine va_put (D := D) (ci := 8) (v := .ref pt) (ty := .object "WonderParcels$Post") (C := RX8) (T := TX8) (N := 13) hx hb hts inX8 tyX8 tyX8_ok nmX8 hown hK hP hD hS 0 rfl rfl 0 (by decide) (hts _ tw_247) (fun _ h9 => h9) rfl (by decide +kernel) rfl rfl (Nat.le_of_ble_eq_true rfl) dX8_init_86 (fun H locs hP hD hS => ?_)
  have hP : va_P D classes [(h, .inr (8, [.ref pt, .int 0, .ref q_1, .ref q_2, .ref q_3, .ref q_4, .ref q_5, .ref q_6, .ref q_7, .ref q_8, .ref q_9, .ref q_10, .int 0])), (q_1, .inl (cy 1, 36, .inl (fun _ => 0))), (q_2, .inl (cy 1, 6, .inl (fun _ => 0))), (q_3, .inl (cy 1, 6, .inl (fun _ => 0))), (q_4, .inl (cy 1, 6, .inl (fun _ => 0))), (q_5, .inl (cy 1, 6, .inl (fun _ => 0))), (q_6, .inl (cy 1, 8, .inl (fun _ => 0))), (q_7, .inl (cy 1, 8, .inl (fun _ => 0))), (q_8, .inl (cy 1, 8, .inl (fun _ => 0))), (q_9, .inl (cy 1, 8, .inl (fun _ => 0))), (q_10, .inl (cy 1, 6, .inl (fun _ => 0)))] H := hP
  have hD : va_D A [(h, .inr (8, [.ref pt, .int 0, .ref q_1, .ref q_2, .ref q_3, .ref q_4, .ref q_5, .ref q_6, .ref q_7, .ref q_8, .ref q_9, .ref q_10, .int 0])), (q_1, .inl (cy 1, 36, .inl (fun _ => 0))), (q_2, .inl (cy 1, 6, .inl (fun _ => 0))), (q_3, .inl (cy 1, 6, .inl (fun _ => 0))), (q_4, .inl (cy 1, 6, .inl (fun _ => 0))), (q_5, .inl (cy 1, 6, .inl (fun _ => 0))), (q_6, .inl (cy 1, 8, .inl (fun _ => 0))), (q_7, .inl (cy 1, 8, .inl (fun _ => 0))), (q_8, .inl (cy 1, 8, .inl (fun _ => 0))), (q_9, .inl (cy 1, 8, .inl (fun _ => 0))), (q_10, .inl (cy 1, 6, .inl (fun _ => 0)))] := hD
  refine lv_aload_n hx hb dX8_init_89 rfl (lv_at hl 0 rfl) ?_
  refine va_get (D := D) (ci := 8) (v := .ref q_7) (C := RX8) (T := TX8) (N := 13) hx hb hts inX8 hown hK hP 0 rfl rfl 8 (by decide) (hts _ tw_268) (fun _ h9 => h9) rfl dX8_init_90 ?_
  refine lv_iconst (v := (-1)) hx hb dX8_init_93 (by decide) ?_
  refine endv (wr := [(h, .inr (8, [.ref pt, .int 0, .ref q_1, .ref q_2, .ref q_3, .ref q_4, .ref q_5, .ref q_6, .ref q_7, .ref q_8, .ref q_9, .ref q_10, .int 0])), (q_1, .inl (cy 1, 36, .inl (fun _ => 0))), (q_2, .inl (cy 1, 6, .inl (fun _ => 0))), (q_3, .inl (cy 1, 6, .inl (fun _ => 0))), (q_4, .inl (cy 1, 6, .inl (fun _ => 0))), (q_5, .inl (cy 1, 6, .inl (fun _ => 0))), (q_6, .inl (cy 1, 8, .inl (fun _ => 0))), (q_8, .inl (cy 1, 8, .inl (fun _ => 0))), (q_9, .inl (cy 1, 8, .inl (fun _ => 0))), (q_10, .inl (cy 1, 6, .inl (fun _ => 0)))]) (va_runS (As := [.ref q_7, .int (-1)]) (rest := []) ⟨hx, hb, hml, hown, hts⟩ (c_fill l D cy z H.size q_7 8 (fun _ => 0) (-1) (by decide)) (va_cwS 2 hts (gS tw_246 tw_167 tw_9 tw_168) rfl rfl rfl (by decide +kernel) ⟨Nat.le_of_ble_eq_true rfl, Nat.le_of_ble_eq_true rfl⟩) (preS hP hD hK hSD hS hA [7] rfl (by decide)) rfl rfl hl.1 rfl (lv_room (Nat.le_of_ble_eq_true rfl)) dX8_init_94 ⟨Nat.le_of_ble_eq_true rfl, Nat.le_of_ble_eq_true rfl⟩) hP hD hS hA [7] [0, 1, 2, 3, 4, 5, 6, 8, 9, 10] rfl rfl (by decide) (by decide) (fun u_11 H locs hw_12 hP hD hS => ?_)
  have hP : va_P D classes [(h, .inr (8, [.ref pt, .int 0, .ref q_1, .ref q_2, .ref q_3, .ref q_4, .ref q_5, .ref q_6, .ref q_7, .ref q_8, .ref q_9, .ref q_10, .int 0])), (q_1, .inl (cy 1, 36, .inl (fun _ => 0))), (q_2, .inl (cy 1, 6, .inl (fun _ => 0))), (q_3, .inl (cy 1, 6, .inl (fun _ => 0))), (q_4, .inl (cy 1, 6, .inl (fun _ => 0))), (q_5, .inl (cy 1, 6, .inl (fun _ => 0))), (q_6, .inl (cy 1, 8, .inl (fun _ => 0))), (q_8, .inl (cy 1, 8, .inl (fun _ => 0))), (q_9, .inl (cy 1, 8, .inl (fun _ => 0))), (q_10, .inl (cy 1, 6, .inl (fun _ => 0))), (q_7, .inl (cy 1, 8, .inl (fun _ => (-1))))] H := hP
  have hD : va_D A [(h, .inr (8, [.ref pt, .int 0, .ref q_1, .ref q_2, .ref q_3, .ref q_4, .ref q_5, .ref q_6, .ref q_7, .ref q_8, .ref q_9, .ref q_10, .int 0])), (q_1, .inl (cy 1, 36, .inl (fun _ => 0))), (q_2, .inl (cy 1, 6, .inl (fun _ => 0))), (q_3, .inl (cy 1, 6, .inl (fun _ => 0))), (q_4, .inl (cy 1, 6, .inl (fun _ => 0))), (q_5, .inl (cy 1, 6, .inl (fun _ => 0))), (q_6, .inl (cy 1, 8, .inl (fun _ => 0))), (q_8, .inl (cy 1, 8, .inl (fun _ => 0))), (q_9, .inl (cy 1, 8, .inl (fun _ => 0))), (q_10, .inl (cy 1, 6, .inl (fun _ => 0))), (q_7, .inl (cy 1, 8, .inl (fun _ => (-1))))] := hD
  have hP9 : va_P D classes [(h, .inr (8, [.ref pt, .int 0, .ref q_1, .ref q_2, .ref q_3, .ref q_4, .ref q_5, .ref q_6, .ref q_7, .ref q_8, .ref q_9, .ref q_10, .int 0])), (q_1, .inl (cy 1, 36, .inl (fun _ => 0))), (q_2, .inl (cy 1, 6, .inl (fun _ => 0))), (q_3, .inl (cy 1, 6, .inl (fun _ => 0))), (q_4, .inl (cy 1, 6, .inl (fun _ => 0))), (q_5, .inl (cy 1, 6, .inl (fun _ => 0))), (q_6, .inl (cy 1, 8, .inl (fun _ => 0))), (q_8, .inl (cy 1, 8, .inl (fun _ => 0))), (q_9, .inl (cy 1, 8, .inl (fun _ => 0))), (q_10, .inl (cy 1, 6, .inl (fun _ => 0))), (q_7, .inl (cy 1, 8, .inl (fun _ => (-1))))] H := subP hP [0, 1, 2, 3, 4, 5, 6, 7, 8, 9, 10] rfl
  have hD9 : va_D A [(h, .inr (8, [.ref pt, .int 0, .ref q_1, .ref q_2, .ref q_3, .ref q_4, .ref q_5, .ref q_6, .ref q_7, .ref q_8, .ref q_9, .ref q_10, .int 0])), (q_1, .inl (cy 1, 36, .inl (fun _ => 0))), (q_2, .inl (cy 1, 6, .inl (fun _ => 0))), (q_3, .inl (cy 1, 6, .inl (fun _ => 0))), (q_4, .inl (cy 1, 6, .inl (fun _ => 0))), (q_5, .inl (cy 1, 6, .inl (fun _ => 0))), (q_6, .inl (cy 1, 8, .inl (fun _ => 0))), (q_8, .inl (cy 1, 8, .inl (fun _ => 0))), (q_9, .inl (cy 1, 8, .inl (fun _ => 0))), (q_10, .inl (cy 1, 6, .inl (fun _ => 0))), (q_7, .inl (cy 1, 8, .inl (fun _ => (-1))))] := hD.sub [0, 1, 2, 3, 4, 5, 6, 7, 8, 9, 10] (by decide) rfl
  refine W.widen (k := 10) (n := 98) (Nat.le_of_ble_eq_true rfl) (Nat.le_of_ble_eq_true rfl) ?_
  exact W.vret hx hb hr (fun t ht hW => ⟨⟨((q_1), (q_2), (q_3), (q_4), (q_5), (q_6), (q_7), (q_8), (q_9), (q_10)), rfl, trivial, by rw [ht]; exact hP9, va_K.moved hW.alike hK, hD9⟩, hS.F ht⟩) hS.2.2 dX8_init_97
end
section
set_option maxHeartbeats 4000000 in
set_option maxRecDepth 100000 in
theorem c_S_coder (l : Launch) (D : va_G) (cy : Nat → ClassId) (z : Nat → Nat) (sz : Nat) : Met l yJ0_coder_7d493 (Cond.code yJ0_coder_7d493 cJ0_coder_7d493 1 (some .byte) :: gT) ({ frames := 0, cells := 0, slots := 0, locals := 200 } : Room) (va_Pc [.ref (z 1)] (PRE D cy z [] sz)) (va_Qi (fun (r : Int32) (u : Unit) => r = 0) (BB D cy (va_A [] sz) (fun (u : Unit) => [])) (va_A [] sz)) 0 0 (va_A [] sz) := by
  refine Met.ofW (cc := cJ0_coder_7d493) (maxL := 1) (ret := (some .byte)) (by decide) rfl ?_
  intro p e s m args below meth c s₁ B hml hv
  obtain ⟨rfl, hsz, hP, hK, hD0, hSD⟩ := hv
  have hx := B.exec
  have hb := B.bytes
  have hr := B.returns
  have hlocks := B.notSynchronized
  have hts : ∀ w ∈ gT, w.before _ s = true := fun w h => atoms_spec (ws := Cond.code yJ0_coder_7d493 cJ0_coder_7d493 1 (some .byte) :: gT) B.pre w (List.mem_cons_of_mem _ h)
  have hown : s.vm.findClass RJ0 = some m.cls := findClass_of_methodNamed B.named
  subst hsz
  have hD := hD0.self (sz := s.heap.size)
  generalize hAe : va_A [] s.heap.size = A at hD hSD ⊢
  have hA : ∀ q : Nat, s.heap.size ≤ q → A q := fun q h => by rw [← hAe]; exact Or.inr h
  have hS : va_S A s.heap s.heap [] := va_S.rf
  have hl := lv_entry ([.ref (z 1)]) (n := 1) (Nat.le_of_ble_eq_true rfl)
  rw [lg_entry_eq]
  generalize (lg_sl ([.ref (z 1)]) ++ List.replicate (1 - (lg_sl ([.ref (z 1)])).length) Slot.unset).toArray = ls at hl ⊢
  have hl : lv_has ls 1 [(0, .ref (z 1))] := hl
  refine va_gets (v := .int 1) hx hb hSD.2.2.2.2.2.1 hS hown (hts _ tw_47) (fun _ h9 => h9) dJ0_coder_7d493_0 ?_
  refine lv_if_eq (tgt := 13) hx hb dJ0_coder_7d493_3 (by decide) (fun c9 => absurd c9 (by decide)) (fun _ => ?_)
  refine lv_aload_n hx hb dJ0_coder_7d493_6 rfl (lv_at hl 0 rfl) ?_
  refine vk_getf (v := .int 0) hx hb hSD.2.2.2.2.2.2.2.1.2.1 hS hown (hts _ tw_1823) (fun _ h9 => h9) dJ0_coder_7d493_7 ?_
  refine lv_goto (tgt := 14) hx hb dJ0_coder_7d493_10 (by decide) ?_
  have hP9 : va_P D classes [] s.heap := subP hP [] rfl
  have hD9 : va_D A [] := hD.sub [] (by decide) rfl
  exact W.zret (v := 0) hx hb hr (rfl) (fun t ht hW => ⟨⟨0, (), rfl, rfl, by rw [ht]; exact hP9, va_K.moved hW.alike hK, hD9⟩, hS.F ht⟩) hS.2.2 dJ0_coder_7d493_14
set_option maxHeartbeats 4000000 in
set_option maxRecDepth 100000 in
theorem c_S_isLatin1 (l : Launch) (D : va_G) (cy : Nat → ClassId) (z : Nat → Nat) (sz : Nat) : Met l yJ0_isLatin1_aae02 (Cond.code yJ0_isLatin1_aae02 cJ0_isLatin1_aae02 1 (some .boolean) :: gT) ({ frames := 0, cells := 0, slots := 0, locals := 200 } : Room) (va_Pc [.ref (z 1)] (PRE D cy z [] sz)) (va_Qi (fun (r : Int32) (u : Unit) => r = 1) (BB D cy (va_A [] sz) (fun (u : Unit) => [])) (va_A [] sz)) 0 0 (va_A [] sz) := by
  refine Met.ofW (cc := cJ0_isLatin1_aae02) (maxL := 1) (ret := (some .boolean)) (by decide) rfl ?_
  intro p e s m args below meth c s₁ B hml hv
  obtain ⟨rfl, hsz, hP, hK, hD0, hSD⟩ := hv
  have hx := B.exec
  have hb := B.bytes
  have hr := B.returns
  have hlocks := B.notSynchronized
  have hts : ∀ w ∈ gT, w.before _ s = true := fun w h => atoms_spec (ws := Cond.code yJ0_isLatin1_aae02 cJ0_isLatin1_aae02 1 (some .boolean) :: gT) B.pre w (List.mem_cons_of_mem _ h)
  have hown : s.vm.findClass RJ0 = some m.cls := findClass_of_methodNamed B.named
  subst hsz
  have hD := hD0.self (sz := s.heap.size)
  generalize hAe : va_A [] s.heap.size = A at hD hSD ⊢
  have hA : ∀ q : Nat, s.heap.size ≤ q → A q := fun q h => by rw [← hAe]; exact Or.inr h
  have hS : va_S A s.heap s.heap [] := va_S.rf
  have hl := lv_entry ([.ref (z 1)]) (n := 1) (Nat.le_of_ble_eq_true rfl)
  rw [lg_entry_eq]
  generalize (lg_sl ([.ref (z 1)]) ++ List.replicate (1 - (lg_sl ([.ref (z 1)])).length) Slot.unset).toArray = ls at hl ⊢
  have hl : lv_has ls 1 [(0, .ref (z 1))] := hl
  refine va_gets (v := .int 1) hx hb hSD.2.2.2.2.2.1 hS hown (hts _ tw_47) (fun _ h9 => h9) dJ0_isLatin1_aae02_0 ?_
  refine lv_if_eq (tgt := 17) hx hb dJ0_isLatin1_aae02_3 (by decide) (fun c9 => absurd c9 (by decide)) (fun _ => ?_)
  refine lv_aload_n hx hb dJ0_isLatin1_aae02_6 rfl (lv_at hl 0 rfl) ?_
  refine vk_getf (v := .int 0) hx hb hSD.2.2.2.2.2.2.2.1.2.1 hS hown (hts _ tw_1823) (fun _ h9 => h9) dJ0_isLatin1_aae02_7 ?_
  refine lv_if_ne (tgt := 17) hx hb dJ0_isLatin1_aae02_10 (by decide) (fun c9 => absurd c9 (by decide)) (fun _ => ?_)
  refine lv_iconst (v := 1) hx hb dJ0_isLatin1_aae02_13 (by decide) ?_
  refine lv_goto (tgt := 18) hx hb dJ0_isLatin1_aae02_14 (by decide) ?_
  have hP9 : va_P D classes [] s.heap := subP hP [] rfl
  have hD9 : va_D A [] := hD.sub [] (by decide) rfl
  exact W.zret (v := 1) hx hb hr (rfl) (fun t ht hW => ⟨⟨1, (), rfl, rfl, by rw [ht]; exact hP9, va_K.moved hW.alike hK, hD9⟩, hS.F ht⟩) hS.2.2 dJ0_isLatin1_aae02_18
set_option maxHeartbeats 4000000 in
set_option maxRecDepth 100000 in
theorem c_S_length (l : Launch) (D : va_G) (cy : Nat → ClassId) (z : Nat → Nat) (sz : Nat) : Met l yJ0_length_8abf5 (Cond.code yJ0_length_8abf5 cJ0_length_8abf5 1 (some .int) :: gT) ({ frames := 2, cells := 0, slots := 0, locals := 400 } : Room) (va_Pc [.ref (z 1)] (PRE D cy z [] sz)) (va_Qi (fun (r : Int32) (u : Unit) => r = 160) (BB D cy (va_A [] sz) (fun (u : Unit) => [])) (va_A [] sz)) 0 0 (va_A [] sz) := by
  refine Met.ofW (cc := cJ0_length_8abf5) (maxL := 1) (ret := (some .int)) (by decide) rfl ?_
  intro p e s m args below meth c s₁ B hml hv
  obtain ⟨rfl, hsz, hP, hK, hD0, hSD⟩ := hv
  have hx := B.exec
  have hb := B.bytes
  have hr := B.returns
  have hlocks := B.notSynchronized
  have hts : ∀ w ∈ gT, w.before _ s = true := fun w h => atoms_spec (ws := Cond.code yJ0_length_8abf5 cJ0_length_8abf5 1 (some .int) :: gT) B.pre w (List.mem_cons_of_mem _ h)
  have hown : s.vm.findClass RJ0 = some m.cls := findClass_of_methodNamed B.named
  subst hsz
  have hD := hD0.self (sz := s.heap.size)
  generalize hAe : va_A [] s.heap.size = A at hD hSD ⊢
  have hA : ∀ q : Nat, s.heap.size ≤ q → A q := fun q h => by rw [← hAe]; exact Or.inr h
  have hS : va_S A s.heap s.heap [] := va_S.rf
  have hl := lv_entry ([.ref (z 1)]) (n := 1) (Nat.le_of_ble_eq_true rfl)
  rw [lg_entry_eq]
  generalize (lg_sl ([.ref (z 1)]) ++ List.replicate (1 - (lg_sl ([.ref (z 1)])).length) Slot.unset).toArray = ls at hl ⊢
  have hl : lv_has ls 1 [(0, .ref (z 1))] := hl
  obtain ⟨fs, hTs⟩ := hSD.2.2.2.2.2.2.2.1.2.2.2
  refine lv_aload_n hx hb dJ0_length_8abf5_0 rfl (lv_at hl 0 rfl) ?_
  refine vk_getf (v := .ref (z 2)) hx hb hSD.2.2.2.2.2.2.2.1.2.2.1 hS hown (hts _ tw_1822) (fun _ h9 => h9) dJ0_length_8abf5_1 ?_
  refine va_tlen (v := 160) hx hb hTs hS rfl dJ0_length_8abf5_4 ?_
  refine lv_aload_n hx hb dJ0_length_8abf5_5 rfl (lv_at hl 0 rfl) ?_
  refine endi (wr := []) (va_runV (As := []) (rest := [.int 160]) ⟨hx, hb, hml, hown, hts⟩ (c_S_coder l D cy z s.heap.size) (cwV 0 hts (gV tw_43 tw_44 tw_45 tw_3 tw_46) rfl rfl rfl (by decide +kernel) ⟨Nat.le_of_ble_eq_true rfl, Nat.le_of_ble_eq_true rfl⟩) (preT hP hD hK hSD hS hA [] rfl (by decide)) rfl rfl hl.1 rfl (lv_room (Nat.le_of_ble_eq_true rfl)) dJ0_length_8abf5_6 ⟨Nat.le_of_ble_eq_true rfl, Nat.le_of_ble_eq_true rfl⟩) hP hD hS hA [] [] rfl rfl (by decide) (by decide) (fun r_2 u_1 H locs hw_2 hP hD hS => ?_)
  have hP : va_P D classes [] H := hP
  have hD : va_D A [] := hD
  have hw_2 : r_2 = 0 := hw_2
  subst hw_2
  refine lv_ishr hx hb dJ0_length_8abf5_9 ?_
  refine tI (y := 160) (by decide) ?_
  have hP9 : va_P D classes [] H := subP hP [] rfl
  have hD9 : va_D A [] := hD.sub [] (by decide) rfl
  exact W.iret (v := 160) hx hb hr (fun t ht hW => ⟨⟨160, (), rfl, rfl, by rw [ht]; exact hP9, va_K.moved hW.alike hK, hD9⟩, hS.F ht⟩) hS.2.2 dJ0_length_8abf5_10
set_option maxHeartbeats 4000000 in
set_option maxRecDepth 100000 in
theorem c_P_ckN (l : Launch) (D : va_G) (cy : Nat → ClassId) (z : Nat → Nat) (sz : Nat) (k : Nat) (hk : k < 160) : Met l yJ3_checkIndex_8e157 (Cond.code yJ3_checkIndex_8e157 cJ3_checkIndex_8e157 3 (some .int) :: gT) ({ frames := 0, cells := 0, slots := 0, locals := 200 } : Room) (va_Pc [.int (nI k), .int 160, .null] (PRE D cy z [] sz)) (va_Qi (fun (r : Int32) (u : Unit) => r = nI k) (BB D cy (va_A [] sz) (fun (u : Unit) => [])) (va_A [] sz)) 0 0 (va_A [] sz) := by
  refine Met.ofW (cc := cJ3_checkIndex_8e157) (maxL := 3) (ret := (some .int)) (by decide) rfl ?_
  intro p e s m args below meth c s₁ B hml hv
  obtain ⟨rfl, hsz, hP, hK, hD0, hSD⟩ := hv
  have hx := B.exec
  have hb := B.bytes
  have hr := B.returns
  have hlocks := B.notSynchronized
  have hts : ∀ w ∈ gT, w.before _ s = true := fun w h => atoms_spec (ws := Cond.code yJ3_checkIndex_8e157 cJ3_checkIndex_8e157 3 (some .int) :: gT) B.pre w (List.mem_cons_of_mem _ h)
  have hown : s.vm.findClass RJ3 = some m.cls := findClass_of_methodNamed B.named
  subst hsz
  have hD := hD0.self (sz := s.heap.size)
  generalize hAe : va_A [] s.heap.size = A at hD hSD ⊢
  have hA : ∀ q : Nat, s.heap.size ≤ q → A q := fun q h => by rw [← hAe]; exact Or.inr h
  have hS : va_S A s.heap s.heap [] := va_S.rf
  have hl := lv_entry ([.int (nI k), .int 160, .null]) (n := 3) (Nat.le_of_ble_eq_true rfl)
  rw [lg_entry_eq]
  generalize (lg_sl ([.int (nI k), .int 160, .null]) ++ List.replicate (3 - (lg_sl ([.int (nI k), .int 160, .null])).length) Slot.unset).toArray = ls at hl ⊢
  have hl : lv_has ls 3 [(0, .int (nI k)), (1, .int 160), (2, .null)] := hl
  refine lv_iload_n hx hb dJ3_checkIndex_8e157_0 rfl (lv_at hl 0 rfl) ?_
  refine lv_if_lt (tgt := 9) hx hb dJ3_checkIndex_8e157_1 (by decide) (fun c_1 => absurd c_1 (nI_pos (by omega))) (fun c_1 => ?_)
  refine lv_iload_n hx hb dJ3_checkIndex_8e157_4 rfl (lv_at hl 0 rfl) ?_
  refine lv_iload_n hx hb dJ3_checkIndex_8e157_5 rfl (lv_at hl 1 rfl) ?_
  refine lv_icmp_lt (tgt := 16) hx hb dJ3_checkIndex_8e157_6 (by decide) (fun c_6 => ?_) (fun c_6 => absurd (nI_lt (b := 160) (by omega) (by decide)) c_6)
  refine lv_iload_n hx hb dJ3_checkIndex_8e157_16 rfl (lv_at hl 0 rfl) ?_
  have hP9 : va_P D classes [] s.heap := subP hP [] rfl
  have hD9 : va_D A [] := hD.sub [] (by decide) rfl
  exact W.iret (v := nI k) hx hb hr (fun t ht hW => ⟨⟨nI k, (), rfl, rfl, by rw [ht]; exact hP9, va_K.moved hW.alike hK, hD9⟩, hS.F ht⟩) hS.2.2 dJ3_checkIndex_8e157_17
set_option maxHeartbeats 4000000 in
set_option maxRecDepth 100000 in
theorem c_P_ckR (l : Launch) (D : va_G) (cy : Nat → ClassId) (z : Nat → Nat) (sz : Nat) (k : Nat) (t : Nat) (hk : k < 160) : Met l yJ3_checkIndex_8e157 (Cond.code yJ3_checkIndex_8e157 cJ3_checkIndex_8e157 3 (some .int) :: gT) ({ frames := 0, cells := 0, slots := 0, locals := 200 } : Room) (va_Pc [.int (nI k), .int 160, .ref t] (PRE D cy z [] sz)) (va_Qi (fun (r : Int32) (u : Unit) => r = nI k) (BB D cy (va_A [] sz) (fun (u : Unit) => [])) (va_A [] sz)) 0 0 (va_A [] sz) := by
  refine Met.ofW (cc := cJ3_checkIndex_8e157) (maxL := 3) (ret := (some .int)) (by decide) rfl ?_
  intro p e s m args below meth c s₁ B hml hv
  obtain ⟨rfl, hsz, hP, hK, hD0, hSD⟩ := hv
  have hx := B.exec
  have hb := B.bytes
  have hr := B.returns
  have hlocks := B.notSynchronized
  have hts : ∀ w ∈ gT, w.before _ s = true := fun w h => atoms_spec (ws := Cond.code yJ3_checkIndex_8e157 cJ3_checkIndex_8e157 3 (some .int) :: gT) B.pre w (List.mem_cons_of_mem _ h)
  have hown : s.vm.findClass RJ3 = some m.cls := findClass_of_methodNamed B.named
  subst hsz
  have hD := hD0.self (sz := s.heap.size)
  generalize hAe : va_A [] s.heap.size = A at hD hSD ⊢
  have hA : ∀ q : Nat, s.heap.size ≤ q → A q := fun q h => by rw [← hAe]; exact Or.inr h
  have hS : va_S A s.heap s.heap [] := va_S.rf
  have hl := lv_entry ([.int (nI k), .int 160, .ref t]) (n := 3) (Nat.le_of_ble_eq_true rfl)
  rw [lg_entry_eq]
  generalize (lg_sl ([.int (nI k), .int 160, .ref t]) ++ List.replicate (3 - (lg_sl ([.int (nI k), .int 160, .ref t])).length) Slot.unset).toArray = ls at hl ⊢
  have hl : lv_has ls 3 [(0, .int (nI k)), (1, .int 160), (2, .ref t)] := hl
  refine lv_iload_n hx hb dJ3_checkIndex_8e157_0 rfl (lv_at hl 0 rfl) ?_
  refine lv_if_lt (tgt := 9) hx hb dJ3_checkIndex_8e157_1 (by decide) (fun c_1 => absurd c_1 (nI_pos (by omega))) (fun c_1 => ?_)
  refine lv_iload_n hx hb dJ3_checkIndex_8e157_4 rfl (lv_at hl 0 rfl) ?_
  refine lv_iload_n hx hb dJ3_checkIndex_8e157_5 rfl (lv_at hl 1 rfl) ?_
  refine lv_icmp_lt (tgt := 16) hx hb dJ3_checkIndex_8e157_6 (by decide) (fun c_6 => ?_) (fun c_6 => absurd (nI_lt (b := 160) (by omega) (by decide)) c_6)
  refine lv_iload_n hx hb dJ3_checkIndex_8e157_16 rfl (lv_at hl 0 rfl) ?_
  have hP9 : va_P D classes [] s.heap := subP hP [] rfl
  have hD9 : va_D A [] := hD.sub [] (by decide) rfl
  exact W.iret (v := nI k) hx hb hr (fun t ht hW => ⟨⟨nI k, (), rfl, rfl, by rw [ht]; exact hP9, va_K.moved hW.alike hK, hD9⟩, hS.F ht⟩) hS.2.2 dJ3_checkIndex_8e157_17
set_option maxHeartbeats 4000000 in
set_option maxRecDepth 100000 in
theorem c_S_ck (l : Launch) (D : va_G) (cy : Nat → ClassId) (z : Nat → Nat) (sz : Nat) (k : Nat) (hk : k < 160) : Met l yJ0_checkIndex_df160 (Cond.code yJ0_checkIndex_df160 cJ0_checkIndex_df160 2 none :: gT) ({ frames := 2, cells := 0, slots := 0, locals := 400 } : Room) (va_Pc [.int (nI k), .int 160] (PRE D cy z [] sz)) (va_Qv (fun (u : Unit) => True) (BB D cy (va_A [] sz) (fun (u : Unit) => [])) (va_A [] sz)) 0 0 (va_A [] sz) := by
  refine Met.ofW (cc := cJ0_checkIndex_df160) (maxL := 2) (ret := none) (by decide) rfl ?_
  intro p e s m args below meth c s₁ B hml hv
  obtain ⟨rfl, hsz, hP, hK, hD0, hSD⟩ := hv
  have hx := B.exec
  have hb := B.bytes
  have hr := B.returns
  have hlocks := B.notSynchronized
  have hts : ∀ w ∈ gT, w.before _ s = true := fun w h => atoms_spec (ws := Cond.code yJ0_checkIndex_df160 cJ0_checkIndex_df160 2 none :: gT) B.pre w (List.mem_cons_of_mem _ h)
  have hown : s.vm.findClass RJ0 = some m.cls := findClass_of_methodNamed B.named
  subst hsz
  have hD := hD0.self (sz := s.heap.size)
  generalize hAe : va_A [] s.heap.size = A at hD hSD ⊢
  have hA : ∀ q : Nat, s.heap.size ≤ q → A q := fun q h => by rw [← hAe]; exact Or.inr h
  have hS : va_S A s.heap s.heap [] := va_S.rf
  have hl := lv_entry ([.int (nI k), .int 160]) (n := 2) (Nat.le_of_ble_eq_true rfl)
  rw [lg_entry_eq]
  generalize (lg_sl ([.int (nI k), .int 160]) ++ List.replicate (2 - (lg_sl ([.int (nI k), .int 160])).length) Slot.unset).toArray = ls at hl ⊢
  have hl : lv_has ls 2 [(0, .int (nI k)), (1, .int 160)] := hl
  refine lv_iload_n hx hb dJ0_checkIndex_df160_0 rfl (lv_at hl 0 rfl) ?_
  refine lv_iload_n hx hb dJ0_checkIndex_df160_1 rfl (lv_at hl 1 rfl) ?_
  rcases hSD.2.2.2.2.2.2.1 with hz9 | ⟨t9, hz9⟩
  · refine va_gets (v := .null) hx hb hz9 hS hown (hts _ tw_63) (fun _ h9 => h9) dJ0_checkIndex_df160_2 ?_
    refine endi (wr := []) (va_runS (As := [.int (nI k), .int 160, .null]) (rest := []) ⟨hx, hb, hml, hown, hts⟩ (c_P_ckN l D cy z s.heap.size k hk) (va_cwS 3 hts (gS tw_65 tw_66 tw_5 tw_67) rfl rfl rfl (by decide +kernel) ⟨Nat.le_of_ble_eq_true rfl, Nat.le_of_ble_eq_true rfl⟩) (preS hP hD hK hSD hS hA [] rfl (by decide)) rfl rfl hl.1 rfl (lv_room (Nat.le_of_ble_eq_true rfl)) dJ0_checkIndex_df160_5 ⟨Nat.le_of_ble_eq_true rfl, Nat.le_of_ble_eq_true rfl⟩) hP hD hS hA [] [] rfl rfl (by decide) (by decide) (fun r_2 u_1 H locs hw_2 hP hD hS => ?_)
    have hP : va_P D classes [] H := hP
    have hD : va_D A [] := hD
    have hw_2 : r_2 = nI k := hw_2
    subst hw_2
    refine lv_pop hx hb dJ0_checkIndex_df160_8 rfl ?_
    have hP9 : va_P D classes [] H := subP hP [] rfl
    have hD9 : va_D A [] := hD.sub [] (by decide) rfl
    exact W.vret hx hb hr (fun t ht hW => ⟨⟨(), rfl, trivial, by rw [ht]; exact hP9, va_K.moved hW.alike hK, hD9⟩, hS.F ht⟩) hS.2.2 dJ0_checkIndex_df160_9
  · refine va_gets (v := .ref t9) hx hb hz9 hS hown (hts _ tw_63) (fun _ h9 => h9) dJ0_checkIndex_df160_2 ?_
    refine endi (wr := []) (va_runS (As := [.int (nI k), .int 160, .ref t9]) (rest := []) ⟨hx, hb, hml, hown, hts⟩ (c_P_ckR l D cy z s.heap.size k t9 hk) (va_cwS 3 hts (gS tw_65 tw_66 tw_5 tw_67) rfl rfl rfl (by decide +kernel) ⟨Nat.le_of_ble_eq_true rfl, Nat.le_of_ble_eq_true rfl⟩) (preS hP hD hK hSD hS hA [] rfl (by decide)) rfl rfl hl.1 rfl (lv_room (Nat.le_of_ble_eq_true rfl)) dJ0_checkIndex_df160_5 ⟨Nat.le_of_ble_eq_true rfl, Nat.le_of_ble_eq_true rfl⟩) hP hD hS hA [] [] rfl rfl (by decide) (by decide) (fun r_4 u_3 H locs hw_4 hP hD hS => ?_)
    have hP : va_P D classes [] H := hP
    have hD : va_D A [] := hD
    have hw_4 : r_4 = nI k := hw_4
    subst hw_4
    refine lv_pop hx hb dJ0_checkIndex_df160_8 rfl ?_
    have hP9 : va_P D classes [] H := subP hP [] rfl
    have hD9 : va_D A [] := hD.sub [] (by decide) rfl
    exact W.vret hx hb hr (fun t ht hW => ⟨⟨(), rfl, trivial, by rw [ht]; exact hP9, va_K.moved hW.alike hK, hD9⟩, hS.F ht⟩) hS.2.2 dJ0_checkIndex_df160_9
set_option maxHeartbeats 4000000 in
set_option maxRecDepth 100000 in
theorem c_L_charAt (l : Launch) (D : va_G) (cy : Nat → ClassId) (z : Nat → Nat) (sz : Nat) (k : Nat) (hk : k < 160) : Met l yJ1_charAt_3b067 (Cond.code yJ1_charAt_3b067 cJ1_charAt_3b067 2 (some .char) :: gT) ({ frames := 3, cells := 0, slots := 0, locals := 600 } : Room) (va_Pc [.ref (z 2), .int (nI k)] (PRE D cy z [] sz)) (va_Qi (fun (r : Int32) (u : Unit) => narrow .char (.int r) = .int r) (BB D cy (va_A [] sz) (fun (u : Unit) => [])) (va_A [] sz)) 0 0 (va_A [] sz) := by
  refine Met.ofW (cc := cJ1_charAt_3b067) (maxL := 2) (ret := (some .char)) (by decide) rfl ?_
  intro p e s m args below meth c s₁ B hml hv
  obtain ⟨rfl, hsz, hP, hK, hD0, hSD⟩ := hv
  have hx := B.exec
  have hb := B.bytes
  have hr := B.returns
  have hlocks := B.notSynchronized
  have hts : ∀ w ∈ gT, w.before _ s = true := fun w h => atoms_spec (ws := Cond.code yJ1_charAt_3b067 cJ1_charAt_3b067 2 (some .char) :: gT) B.pre w (List.mem_cons_of_mem _ h)
  have hown : s.vm.findClass RJ1 = some m.cls := findClass_of_methodNamed B.named
  subst hsz
  have hD := hD0.self (sz := s.heap.size)
  generalize hAe : va_A [] s.heap.size = A at hD hSD ⊢
  have hA : ∀ q : Nat, s.heap.size ≤ q → A q := fun q h => by rw [← hAe]; exact Or.inr h
  have hS : va_S A s.heap s.heap [] := va_S.rf
  have hl := lv_entry ([.ref (z 2), .int (nI k)]) (n := 2) (Nat.le_of_ble_eq_true rfl)
  rw [lg_entry_eq]
  generalize (lg_sl ([.ref (z 2), .int (nI k)]) ++ List.replicate (2 - (lg_sl ([.ref (z 2), .int (nI k)])).length) Slot.unset).toArray = ls at hl ⊢
  have hl : lv_has ls 2 [(0, .ref (z 2)), (1, .int (nI k))] := hl
  obtain ⟨fs, hTs⟩ := hSD.2.2.2.2.2.2.2.1.2.2.2
  refine lv_iload_n hx hb dJ1_charAt_3b067_0 rfl (lv_at hl 1 rfl) ?_
  refine lv_aload_n hx hb dJ1_charAt_3b067_1 rfl (lv_at hl 0 rfl) ?_
  refine va_tlen (v := 160) hx hb hTs hS rfl dJ1_charAt_3b067_2 ?_
  refine endv (wr := []) (va_runS (As := [.int (nI k), .int 160]) (rest := []) ⟨hx, hb, hml, hown, hts⟩ (c_S_ck l D cy z s.heap.size k hk) (va_cwS 2 hts (gS tw_60 tw_61 tw_3 tw_62) rfl rfl rfl (by decide +kernel) ⟨Nat.le_of_ble_eq_true rfl, Nat.le_of_ble_eq_true rfl⟩) (preS hP hD hK hSD hS hA [] rfl (by decide)) rfl rfl hl.1 rfl (lv_room (Nat.le_of_ble_eq_true rfl)) dJ1_charAt_3b067_3 ⟨Nat.le_of_ble_eq_true rfl, Nat.le_of_ble_eq_true rfl⟩) hP hD hS hA [] [] rfl rfl (by decide) (by decide) (fun u_1 H locs hw_2 hP hD hS => ?_)
  have hP : va_P D classes [] H := hP
  have hD : va_D A [] := hD
  refine lv_aload_n hx hb dJ1_charAt_3b067_6 rfl (lv_at hl 0 rfl) ?_
  refine lv_iload_n hx hb dJ1_charAt_3b067_7 rfl (lv_at hl 1 rfl) ?_
  refine va_tb (v := .int (fs (Int32.toNatClampNeg (nI k)))) hx hb hTs hS (vp_in_nI hk (by decide)) rfl dJ1_charAt_3b067_8 ?_
  refine lv_sipush (v := 255) hx hb dJ1_charAt_3b067_9 (by decide) ?_
  refine lv_iand hx hb dJ1_charAt_3b067_12 ?_
  obtain ⟨v_3, ev_3⟩ : ∃ q9 : Int32, (Int32.toUInt32 ((fs (Int32.toNatClampNeg (nI k))) &&& 255) % 65536).toInt32 = q9 := ⟨_, rfl⟩
  refine lv_i2c (v := v_3) hx hb dJ1_charAt_3b067_13 ev_3 ?_
  have hP9 : va_P D classes [] H := subP hP [] rfl
  have hD9 : va_D A [] := hD.sub [] (by decide) rfl
  exact W.zret (v := v_3) hx hb hr (by rw [← ev_3]; exact pk_nc _) (fun t ht hW => ⟨⟨v_3, (), rfl, by rw [← ev_3]; exact pk_nc _, by rw [ht]; exact hP9, va_K.moved hW.alike hK, hD9⟩, hS.F ht⟩) hS.2.2 dJ1_charAt_3b067_14
set_option maxHeartbeats 4000000 in
set_option maxRecDepth 100000 in
theorem c_S_charAt (l : Launch) (D : va_G) (cy : Nat → ClassId) (z : Nat → Nat) (sz : Nat) (k : Nat) (hk : k < 160) : Met l yJ0_charAt_5068e (Cond.code yJ0_charAt_5068e cJ0_charAt_5068e 2 (some .char) :: gT) ({ frames := 4, cells := 0, slots := 0, locals := 800 } : Room) (va_Pc [.ref (z 1), .int (nI k)] (PRE D cy z [] sz)) (va_Qi (fun (r : Int32) (u : Unit) => narrow .char (.int r) = .int r) (BB D cy (va_A [] sz) (fun (u : Unit) => [])) (va_A [] sz)) 0 0 (va_A [] sz) := by
  refine Met.ofW (cc := cJ0_charAt_5068e) (maxL := 2) (ret := (some .char)) (by decide) rfl ?_
  intro p e s m args below meth c s₁ B hml hv
  obtain ⟨rfl, hsz, hP, hK, hD0, hSD⟩ := hv
  have hx := B.exec
  have hb := B.bytes
  have hr := B.returns
  have hlocks := B.notSynchronized
  have hts : ∀ w ∈ gT, w.before _ s = true := fun w h => atoms_spec (ws := Cond.code yJ0_charAt_5068e cJ0_charAt_5068e 2 (some .char) :: gT) B.pre w (List.mem_cons_of_mem _ h)
  have hown : s.vm.findClass RJ0 = some m.cls := findClass_of_methodNamed B.named
  subst hsz
  have hD := hD0.self (sz := s.heap.size)
  generalize hAe : va_A [] s.heap.size = A at hD hSD ⊢
  have hA : ∀ q : Nat, s.heap.size ≤ q → A q := fun q h => by rw [← hAe]; exact Or.inr h
  have hS : va_S A s.heap s.heap [] := va_S.rf
  have hl := lv_entry ([.ref (z 1), .int (nI k)]) (n := 2) (Nat.le_of_ble_eq_true rfl)
  rw [lg_entry_eq]
  generalize (lg_sl ([.ref (z 1), .int (nI k)]) ++ List.replicate (2 - (lg_sl ([.ref (z 1), .int (nI k)])).length) Slot.unset).toArray = ls at hl ⊢
  have hl : lv_has ls 2 [(0, .ref (z 1)), (1, .int (nI k))] := hl
  refine lv_aload_n hx hb dJ0_charAt_5068e_0 rfl (lv_at hl 0 rfl) ?_
  refine endi (wr := []) (va_runV (As := []) (rest := []) ⟨hx, hb, hml, hown, hts⟩ (c_S_isLatin1 l D cy z s.heap.size) (cwV 0 hts (gV tw_53 tw_54 tw_55 tw_3 tw_56) rfl rfl rfl (by decide +kernel) ⟨Nat.le_of_ble_eq_true rfl, Nat.le_of_ble_eq_true rfl⟩) (preT hP hD hK hSD hS hA [] rfl (by decide)) rfl rfl hl.1 rfl (lv_room (Nat.le_of_ble_eq_true rfl)) dJ0_charAt_5068e_1 ⟨Nat.le_of_ble_eq_true rfl, Nat.le_of_ble_eq_true rfl⟩) hP hD hS hA [] [] rfl rfl (by decide) (by decide) (fun r_2 u_1 H locs hw_2 hP hD hS => ?_)
  have hP : va_P D classes [] H := hP
  have hD : va_D A [] := hD
  have hw_2 : r_2 = 1 := hw_2
  subst hw_2
  refine lv_if_eq (tgt := 16) hx hb dJ0_charAt_5068e_4 (by decide) (fun c9 => absurd c9 (by decide)) (fun _ => ?_)
  refine lv_aload_n hx hb dJ0_charAt_5068e_7 rfl (lv_at hl 0 rfl) ?_
  refine vk_getf (v := .ref (z 2)) hx hb hSD.2.2.2.2.2.2.2.1.2.2.1 hS hown (hts _ tw_1822) (fun _ h9 => h9) dJ0_charAt_5068e_8 ?_
  refine lv_iload_n hx hb dJ0_charAt_5068e_11 rfl (lv_at hl 1 rfl) ?_
  refine endi (wr := []) (va_runS (As := [.ref (z 2), .int (nI k)]) (rest := []) ⟨hx, hb, hml, hown, hts⟩ (c_L_charAt l D cy z H.size k hk) (va_cwS 2 hts (gS tw_57 tw_58 tw_4 tw_59) rfl rfl rfl (by decide +kernel) ⟨Nat.le_of_ble_eq_true rfl, Nat.le_of_ble_eq_true rfl⟩) (preS hP hD hK hSD hS hA [] rfl (by decide)) rfl rfl hl.1 rfl (lv_room (Nat.le_of_ble_eq_true rfl)) dJ0_charAt_5068e_12 ⟨Nat.le_of_ble_eq_true rfl, Nat.le_of_ble_eq_true rfl⟩) hP hD hS hA [] [] rfl rfl (by decide) (by decide) (fun r_4 u_3 H locs hw_4 hP hD hS => ?_)
  have hP : va_P D classes [] H := hP
  have hD : va_D A [] := hD
  have hw_4 : narrow .char (.int r_4) = .int r_4 := hw_4
  have hP9 : va_P D classes [] H := subP hP [] rfl
  have hD9 : va_D A [] := hD.sub [] (by decide) rfl
  exact W.zret (v := r_4) hx hb hr (hw_4) (fun t ht hW => ⟨⟨r_4, (), rfl, hw_4, by rw [ht]; exact hP9, va_K.moved hW.alike hK, hD9⟩, hS.F ht⟩) hS.2.2 dJ0_charAt_5068e_15
set_option maxHeartbeats 4000000 in
set_option maxRecDepth 100000 in
theorem c_Post_init (l : Launch) (D : va_G) (cy : Nat → ClassId) (z : Nat → Nat) (sz : Nat) (h : Nat) : Met l yX3_init (Cond.code yX3_init cX3_init 1 none :: gT) ({ frames := 2, cells := 5, slots := 56, locals := 400 } : Room) (va_Pc [.ref h] (PRE D cy z [(h, .inr (3, [.null, .null, .null, .null, .null, .int 0, .int 0, .int 0, .int 0]))] sz)) (va_Qv (fun (u : (Nat) × (Nat) × (Nat) × (Nat) × (Nat)) => True) (BB D cy (va_A [(h, .inr (3, [.null, .null, .null, .null, .null, .int 0, .int 0, .int 0, .int 0]))] sz) (fun (u : (Nat) × (Nat) × (Nat) × (Nat) × (Nat)) => [(h, .inr (3, [.ref u.1, .ref u.2.1, .ref u.2.2.1, .ref u.2.2.2.1, .ref u.2.2.2.2, .int 0, .int 5, .int 0, .int 0])), (u.1, .inl (cy 2, 32, .inr (.inl (fun _ => 0)))), (u.2.1, .inl (cy 1, 4, .inl (fun _ => 0))), (u.2.2.1, .inl (cy 1, 6, .inl (fun _ => 0))), (u.2.2.2.1, .inl (cy 1, 6, .inl (fun _ => 0))), (u.2.2.2.2, .inl (cy 1, 8, .inl (fun _ => 0)))])) (va_A [(h, .inr (3, [.null, .null, .null, .null, .null, .int 0, .int 0, .int 0, .int 0]))] sz)) 5 56 (va_A [(h, .inr (3, [.null, .null, .null, .null, .null, .int 0, .int 0, .int 0, .int 0]))] sz) := by
  refine Met.ofW (cc := cX3_init) (maxL := 1) (ret := none) (by decide) rfl ?_
  intro p e s m args below meth c s₁ B hml hv
  obtain ⟨rfl, hsz, hP, hK, hD0, hSD⟩ := hv
  have hx := B.exec
  have hb := B.bytes
  have hr := B.returns
  have hlocks := B.notSynchronized
  have hts : ∀ w ∈ gT, w.before _ s = true := fun w h => atoms_spec (ws := Cond.code yX3_init cX3_init 1 none :: gT) B.pre w (List.mem_cons_of_mem _ h)
  have hown : s.vm.findClass RX3 = some m.cls := findClass_of_methodNamed B.named
  have hin : meth.name = "<init>" := (name_of_methodNamed B.named B.method).1
  subst hsz
  have hD := hD0.self (sz := s.heap.size)
  generalize hAe : va_A [(h, .inr (3, [.null, .null, .null, .null, .null, .int 0, .int 0, .int 0, .int 0]))] s.heap.size = A at hD hSD ⊢
  have hA : ∀ q : Nat, s.heap.size ≤ q → A q := fun q h => by rw [← hAe]; exact Or.inr h
  have hS : va_S A s.heap s.heap [] := va_S.rf
  have hl := lv_entry ([.ref h]) (n := 1) (Nat.le_of_ble_eq_true rfl)
  rw [lg_entry_eq]
  generalize (lg_sl ([.ref h]) ++ List.replicate (1 - (lg_sl ([.ref h])).length) Slot.unset).toArray = ls at hl ⊢
  have hl : lv_has ls 1 [(0, .ref h)] := hl
  refine lv_aload_n hx hb dX3_init_0 rfl (lv_at hl 0 rfl) ?_
  refine W.objInit hx hb hown (hts _ tw_197) (hts _ tw_30) (hts _ tw_31) rfl (by rw [hml]; exact hl.1) rfl dX3_init_1 (Nat.le_of_ble_eq_true rfl) (Nat.le_of_ble_eq_true rfl) ?_
  refine W.eq (g2 := F0 m 4 ls []) rfl ?_
  refine lv_aload_n hx hb dX3_init_4 rfl (lv_at hl 0 rfl) ?_
  refine va_gets (v := .ref (z 0)) hx hb hSD.2.2.2.1 hS hown (hts _ tw_198) (fun _ h9 => h9) dX3_init_5 ?_
  refine va_tlen (v := 4) hx hb hSD.2.2.2.2.1 hS rfl dX3_init_8 ?_
  refine lv_bipush (v := 8) hx hb dX3_init_9 (by decide) ?_
  refine lv_imul hx hb dX3_init_11 ?_
  refine tI (y := 32) (by decide) ?_
  refine newaC (atype := .long) (ty := .long) (N' := 32) (a0 := (32, .inr (.inl (fun _ => 0)))) hx hb (hts _ tw_135) rfl (fun C h => by cases h) hK hP hD hS hA 2 rfl (fun _ => rfl) (by decide) (by decide) (by decide) (Nat.le_of_ble_eq_true rfl) (Nat.le_of_ble_eq_true rfl) dX3_init_12 (fun q_1 H hP hD hS => ?_)
  have hP : va_P D classes [(h, .inr (3, [.null, .null, .null, .null, .null, .int 0, .int 0, .int 0, .int 0])), (q_1, .inl (cy 2, 32, .inr (.inl (fun _ => 0))))] H := hP
  have hD : va_D A [(h, .inr (3, [.null, .null, .null, .null, .null, .int 0, .int 0, .int 0, .int 0])), (q_1, .inl (cy 2, 32, .inr (.inl (fun _ => 0))))] := hD
  refine W.widen (k := 1) (n := 32) (Nat.le_of_ble_eq_true rfl) (Nat.le_of_ble_eq_true rfl) ?_
  refine va_putF (D := D) (ci := 3) (v := .ref q_1) (ty := .array .long) (C := RX3) (T := TX3) (N := 9) hx hb hts inX3 tyX3 tyX3_ok nmX3 hown hK hP hD hS 0 rfl rfl 0 (by decide) (hts _ tw_200) (fun _ h9 => h9) rfl hin rfl (by decide +kernel) rfl rfl (Nat.le_of_ble_eq_true rfl) dX3_init_14 (fun H locs hP hD hS => ?_)
  have hP : va_P D classes [(h, .inr (3, [.ref q_1, .null, .null, .null, .null, .int 0, .int 0, .int 0, .int 0])), (q_1, .inl (cy 2, 32, .inr (.inl (fun _ => 0))))] H := hP
  have hD : va_D A [(h, .inr (3, [.ref q_1, .null, .null, .null, .null, .int 0, .int 0, .int 0, .int 0])), (q_1, .inl (cy 2, 32, .inr (.inl (fun _ => 0))))] := hD
  refine lv_aload_n hx hb dX3_init_17 rfl (lv_at hl 0 rfl) ?_
  refine va_gets (v := .ref (z 0)) hx hb hSD.2.2.2.1 hS hown (hts _ tw_198) (fun _ h9 => h9) dX3_init_18 ?_
  refine va_tlen (v := 4) hx hb hSD.2.2.2.2.1 hS rfl dX3_init_21 ?_
  refine newaC (atype := .int) (ty := .int) (N' := 4) (a0 := (4, .inl (fun _ => 0))) hx hb (hts _ tw_159) rfl (fun C h => by cases h) hK hP hD hS hA 1 rfl (fun _ => rfl) (by decide) (by decide) (by decide) (Nat.le_of_ble_eq_true rfl) (Nat.le_of_ble_eq_true rfl) dX3_init_22 (fun q_2 H hP hD hS => ?_)
  have hP : va_P D classes [(h, .inr (3, [.ref q_1, .null, .null, .null, .null, .int 0, .int 0, .int 0, .int 0])), (q_1, .inl (cy 2, 32, .inr (.inl (fun _ => 0)))), (q_2, .inl (cy 1, 4, .inl (fun _ => 0)))] H := hP
  have hD : va_D A [(h, .inr (3, [.ref q_1, .null, .null, .null, .null, .int 0, .int 0, .int 0, .int 0])), (q_1, .inl (cy 2, 32, .inr (.inl (fun _ => 0)))), (q_2, .inl (cy 1, 4, .inl (fun _ => 0)))] := hD
  refine W.widen (k := 2) (n := 36) (Nat.le_of_ble_eq_true rfl) (Nat.le_of_ble_eq_true rfl) ?_
  refine va_putF (D := D) (ci := 3) (v := .ref q_2) (ty := .array .int) (C := RX3) (T := TX3) (N := 9) hx hb hts inX3 tyX3 tyX3_ok nmX3 hown hK hP hD hS 0 rfl rfl 1 (by decide) (hts _ tw_201) (fun _ h9 => h9) rfl hin rfl (by decide +kernel) rfl rfl (Nat.le_of_ble_eq_true rfl) dX3_init_24 (fun H locs hP hD hS => ?_)
  have hP : va_P D classes [(h, .inr (3, [.ref q_1, .ref q_2, .null, .null, .null, .int 0, .int 0, .int 0, .int 0])), (q_1, .inl (cy 2, 32, .inr (.inl (fun _ => 0)))), (q_2, .inl (cy 1, 4, .inl (fun _ => 0)))] H := hP
  have hD : va_D A [(h, .inr (3, [.ref q_1, .ref q_2, .null, .null, .null, .int 0, .int 0, .int 0, .int 0])), (q_1, .inl (cy 2, 32, .inr (.inl (fun _ => 0)))), (q_2, .inl (cy 1, 4, .inl (fun _ => 0)))] := hD
  refine lv_aload_n hx hb dX3_init_27 rfl (lv_at hl 0 rfl) ?_
  refine lv_bipush (v := 6) hx hb dX3_init_28 (by decide) ?_
  refine newaC (atype := .int) (ty := .int) (N' := 6) (a0 := (6, .inl (fun _ => 0))) hx hb (hts _ tw_159) rfl (fun C h => by cases h) hK hP hD hS hA 1 rfl (fun _ => rfl) (by decide) (by decide) (by decide) (Nat.le_of_ble_eq_true rfl) (Nat.le_of_ble_eq_true rfl) dX3_init_30 (fun q_3 H hP hD hS => ?_)
  have hP : va_P D classes [(h, .inr (3, [.ref q_1, .ref q_2, .null, .null, .null, .int 0, .int 0, .int 0, .int 0])), (q_1, .inl (cy 2, 32, .inr (.inl (fun _ => 0)))), (q_2, .inl (cy 1, 4, .inl (fun _ => 0))), (q_3, .inl (cy 1, 6, .inl (fun _ => 0)))] H := hP
  have hD : va_D A [(h, .inr (3, [.ref q_1, .ref q_2, .null, .null, .null, .int 0, .int 0, .int 0, .int 0])), (q_1, .inl (cy 2, 32, .inr (.inl (fun _ => 0)))), (q_2, .inl (cy 1, 4, .inl (fun _ => 0))), (q_3, .inl (cy 1, 6, .inl (fun _ => 0)))] := hD
  refine W.widen (k := 3) (n := 42) (Nat.le_of_ble_eq_true rfl) (Nat.le_of_ble_eq_true rfl) ?_
  refine va_putF (D := D) (ci := 3) (v := .ref q_3) (ty := .array .int) (C := RX3) (T := TX3) (N := 9) hx hb hts inX3 tyX3 tyX3_ok nmX3 hown hK hP hD hS 0 rfl rfl 2 (by decide) (hts _ tw_205) (fun _ h9 => h9) rfl hin rfl (by decide +kernel) rfl rfl (Nat.le_of_ble_eq_true rfl) dX3_init_32 (fun H locs hP hD hS => ?_)
  have hP : va_P D classes [(h, .inr (3, [.ref q_1, .ref q_2, .ref q_3, .null, .null, .int 0, .int 0, .int 0, .int 0])), (q_1, .inl (cy 2, 32, .inr (.inl (fun _ => 0)))), (q_2, .inl (cy 1, 4, .inl (fun _ => 0))), (q_3, .inl (cy 1, 6, .inl (fun _ => 0)))] H := hP
  have hD : va_D A [(h, .inr (3, [.ref q_1, .ref q_2, .ref q_3, .null, .null, .int 0, .int 0, .int 0, .int 0])), (q_1, .inl (cy 2, 32, .inr (.inl (fun _ => 0)))), (q_2, .inl (cy 1, 4, .inl (fun _ => 0))), (q_3, .inl (cy 1, 6, .inl (fun _ => 0)))] := hD
  refine lv_aload_n hx hb dX3_init_35 rfl (lv_at hl 0 rfl) ?_
  refine lv_bipush (v := 6) hx hb dX3_init_36 (by decide) ?_
  refine newaC (atype := .int) (ty := .int) (N' := 6) (a0 := (6, .inl (fun _ => 0))) hx hb (hts _ tw_159) rfl (fun C h => by cases h) hK hP hD hS hA 1 rfl (fun _ => rfl) (by decide) (by decide) (by decide) (Nat.le_of_ble_eq_true rfl) (Nat.le_of_ble_eq_true rfl) dX3_init_38 (fun q_4 H hP hD hS => ?_)
  have hP : va_P D classes [(h, .inr (3, [.ref q_1, .ref q_2, .ref q_3, .null, .null, .int 0, .int 0, .int 0, .int 0])), (q_1, .inl (cy 2, 32, .inr (.inl (fun _ => 0)))), (q_2, .inl (cy 1, 4, .inl (fun _ => 0))), (q_3, .inl (cy 1, 6, .inl (fun _ => 0))), (q_4, .inl (cy 1, 6, .inl (fun _ => 0)))] H := hP
  have hD : va_D A [(h, .inr (3, [.ref q_1, .ref q_2, .ref q_3, .null, .null, .int 0, .int 0, .int 0, .int 0])), (q_1, .inl (cy 2, 32, .inr (.inl (fun _ => 0)))), (q_2, .inl (cy 1, 4, .inl (fun _ => 0))), (q_3, .inl (cy 1, 6, .inl (fun _ => 0))), (q_4, .inl (cy 1, 6, .inl (fun _ => 0)))] := hD
  refine W.widen (k := 4) (n := 48) (Nat.le_of_ble_eq_true rfl) (Nat.le_of_ble_eq_true rfl) ?_
  refine va_putF (D := D) (ci := 3) (v := .ref q_4) (ty := .array .int) (C := RX3) (T := TX3) (N := 9) hx hb hts inX3 tyX3 tyX3_ok nmX3 hown hK hP hD hS 0 rfl rfl 3 (by decide) (hts _ tw_208) (fun _ h9 => h9) rfl hin rfl (by decide +kernel) rfl rfl (Nat.le_of_ble_eq_true rfl) dX3_init_40 (fun H locs hP hD hS => ?_)
  have hP : va_P D classes [(h, .inr (3, [.ref q_1, .ref q_2, .ref q_3, .ref q_4, .null, .int 0, .int 0, .int 0, .int 0])), (q_1, .inl (cy 2, 32, .inr (.inl (fun _ => 0)))), (q_2, .inl (cy 1, 4, .inl (fun _ => 0))), (q_3, .inl (cy 1, 6, .inl (fun _ => 0))), (q_4, .inl (cy 1, 6, .inl (fun _ => 0)))] H := hP
  have hD : va_D A [(h, .inr (3, [.ref q_1, .ref q_2, .ref q_3, .ref q_4, .null, .int 0, .int 0, .int 0, .int 0])), (q_1, .inl (cy 2, 32, .inr (.inl (fun _ => 0)))), (q_2, .inl (cy 1, 4, .inl (fun _ => 0))), (q_3, .inl (cy 1, 6, .inl (fun _ => 0))), (q_4, .inl (cy 1, 6, .inl (fun _ => 0)))] := hD
  refine lv_aload_n hx hb dX3_init_43 rfl (lv_at hl 0 rfl) ?_
  refine lv_bipush (v := 8) hx hb dX3_init_44 (by decide) ?_
  refine newaC (atype := .int) (ty := .int) (N' := 8) (a0 := (8, .inl (fun _ => 0))) hx hb (hts _ tw_159) rfl (fun C h => by cases h) hK hP hD hS hA 1 rfl (fun _ => rfl) (by decide) (by decide) (by decide) (Nat.le_of_ble_eq_true rfl) (Nat.le_of_ble_eq_true rfl) dX3_init_46 (fun q_5 H hP hD hS => ?_)
  have hP : va_P D classes [(h, .inr (3, [.ref q_1, .ref q_2, .ref q_3, .ref q_4, .null, .int 0, .int 0, .int 0, .int 0])), (q_1, .inl (cy 2, 32, .inr (.inl (fun _ => 0)))), (q_2, .inl (cy 1, 4, .inl (fun _ => 0))), (q_3, .inl (cy 1, 6, .inl (fun _ => 0))), (q_4, .inl (cy 1, 6, .inl (fun _ => 0))), (q_5, .inl (cy 1, 8, .inl (fun _ => 0)))] H := hP
  have hD : va_D A [(h, .inr (3, [.ref q_1, .ref q_2, .ref q_3, .ref q_4, .null, .int 0, .int 0, .int 0, .int 0])), (q_1, .inl (cy 2, 32, .inr (.inl (fun _ => 0)))), (q_2, .inl (cy 1, 4, .inl (fun _ => 0))), (q_3, .inl (cy 1, 6, .inl (fun _ => 0))), (q_4, .inl (cy 1, 6, .inl (fun _ => 0))), (q_5, .inl (cy 1, 8, .inl (fun _ => 0)))] := hD
  refine W.widen (k := 5) (n := 56) (Nat.le_of_ble_eq_true rfl) (Nat.le_of_ble_eq_true rfl) ?_
  refine va_putF (D := D) (ci := 3) (v := .ref q_5) (ty := .array .int) (C := RX3) (T := TX3) (N := 9) hx hb hts inX3 tyX3 tyX3_ok nmX3 hown hK hP hD hS 0 rfl rfl 4 (by decide) (hts _ tw_210) (fun _ h9 => h9) rfl hin rfl (by decide +kernel) rfl rfl (Nat.le_of_ble_eq_true rfl) dX3_init_48 (fun H locs hP hD hS => ?_)
  have hP : va_P D classes [(h, .inr (3, [.ref q_1, .ref q_2, .ref q_3, .ref q_4, .ref q_5, .int 0, .int 0, .int 0, .int 0])), (q_1, .inl (cy 2, 32, .inr (.inl (fun _ => 0)))), (q_2, .inl (cy 1, 4, .inl (fun _ => 0))), (q_3, .inl (cy 1, 6, .inl (fun _ => 0))), (q_4, .inl (cy 1, 6, .inl (fun _ => 0))), (q_5, .inl (cy 1, 8, .inl (fun _ => 0)))] H := hP
  have hD : va_D A [(h, .inr (3, [.ref q_1, .ref q_2, .ref q_3, .ref q_4, .ref q_5, .int 0, .int 0, .int 0, .int 0])), (q_1, .inl (cy 2, 32, .inr (.inl (fun _ => 0)))), (q_2, .inl (cy 1, 4, .inl (fun _ => 0))), (q_3, .inl (cy 1, 6, .inl (fun _ => 0))), (q_4, .inl (cy 1, 6, .inl (fun _ => 0))), (q_5, .inl (cy 1, 8, .inl (fun _ => 0)))] := hD
  refine lv_aload_n hx hb dX3_init_51 rfl (lv_at hl 0 rfl) ?_
  refine lv_iconst (v := 0) hx hb dX3_init_52 (by decide) ?_
  refine va_put (D := D) (ci := 3) (v := .int 0) (ty := .int) (C := RX3) (T := TX3) (N := 9) hx hb hts inX3 tyX3 tyX3_ok nmX3 hown hK hP hD hS 0 rfl rfl 5 (by decide) (hts _ tw_213) (fun _ h9 => h9) rfl (by decide +kernel) rfl rfl (Nat.le_of_ble_eq_true rfl) dX3_init_53 (fun H locs hP hD hS => ?_)
  have hP : va_P D classes [(h, .inr (3, [.ref q_1, .ref q_2, .ref q_3, .ref q_4, .ref q_5, .int 0, .int 0, .int 0, .int 0])), (q_1, .inl (cy 2, 32, .inr (.inl (fun _ => 0)))), (q_2, .inl (cy 1, 4, .inl (fun _ => 0))), (q_3, .inl (cy 1, 6, .inl (fun _ => 0))), (q_4, .inl (cy 1, 6, .inl (fun _ => 0))), (q_5, .inl (cy 1, 8, .inl (fun _ => 0)))] H := hP
  have hD : va_D A [(h, .inr (3, [.ref q_1, .ref q_2, .ref q_3, .ref q_4, .ref q_5, .int 0, .int 0, .int 0, .int 0])), (q_1, .inl (cy 2, 32, .inr (.inl (fun _ => 0)))), (q_2, .inl (cy 1, 4, .inl (fun _ => 0))), (q_3, .inl (cy 1, 6, .inl (fun _ => 0))), (q_4, .inl (cy 1, 6, .inl (fun _ => 0))), (q_5, .inl (cy 1, 8, .inl (fun _ => 0)))] := hD
  refine lv_aload_n hx hb dX3_init_56 rfl (lv_at hl 0 rfl) ?_
  refine lv_iconst (v := 5) hx hb dX3_init_57 (by decide) ?_
  refine va_put (D := D) (ci := 3) (v := .int 5) (ty := .int) (C := RX3) (T := TX3) (N := 9) hx hb hts inX3 tyX3 tyX3_ok nmX3 hown hK hP hD hS 0 rfl rfl 6 (by decide) (hts _ tw_216) (fun _ h9 => h9) rfl (by decide +kernel) rfl rfl (Nat.le_of_ble_eq_true rfl) dX3_init_58 (fun H locs hP hD hS => ?_)
  have hP : va_P D classes [(h, .inr (3, [.ref q_1, .ref q_2, .ref q_3, .ref q_4, .ref q_5, .int 0, .int 5, .int 0, .int 0])), (q_1, .inl (cy 2, 32, .inr (.inl (fun _ => 0)))), (q_2, .inl (cy 1, 4, .inl (fun _ => 0))), (q_3, .inl (cy 1, 6, .inl (fun _ => 0))), (q_4, .inl (cy 1, 6, .inl (fun _ => 0))), (q_5, .inl (cy 1, 8, .inl (fun _ => 0)))] H := hP
  have hD : va_D A [(h, .inr (3, [.ref q_1, .ref q_2, .ref q_3, .ref q_4, .ref q_5, .int 0, .int 5, .int 0, .int 0])), (q_1, .inl (cy 2, 32, .inr (.inl (fun _ => 0)))), (q_2, .inl (cy 1, 4, .inl (fun _ => 0))), (q_3, .inl (cy 1, 6, .inl (fun _ => 0))), (q_4, .inl (cy 1, 6, .inl (fun _ => 0))), (q_5, .inl (cy 1, 8, .inl (fun _ => 0)))] := hD
  refine lv_aload_n hx hb dX3_init_61 rfl (lv_at hl 0 rfl) ?_
  refine lv_iconst (v := 0) hx hb dX3_init_62 (by decide) ?_
  refine va_put (D := D) (ci := 3) (v := .int 0) (ty := .boolean) (C := RX3) (T := TX3) (N := 9) hx hb hts inX3 tyX3 tyX3_ok nmX3 hown hK hP hD hS 0 rfl rfl 7 (by decide) (hts _ tw_219) (fun _ h9 => h9) rfl (by decide +kernel) rfl rfl (Nat.le_of_ble_eq_true rfl) dX3_init_63 (fun H locs hP hD hS => ?_)
  have hP : va_P D classes [(h, .inr (3, [.ref q_1, .ref q_2, .ref q_3, .ref q_4, .ref q_5, .int 0, .int 5, .int 0, .int 0])), (q_1, .inl (cy 2, 32, .inr (.inl (fun _ => 0)))), (q_2, .inl (cy 1, 4, .inl (fun _ => 0))), (q_3, .inl (cy 1, 6, .inl (fun _ => 0))), (q_4, .inl (cy 1, 6, .inl (fun _ => 0))), (q_5, .inl (cy 1, 8, .inl (fun _ => 0)))] H := hP
  have hD : va_D A [(h, .inr (3, [.ref q_1, .ref q_2, .ref q_3, .ref q_4, .ref q_5, .int 0, .int 5, .int 0, .int 0])), (q_1, .inl (cy 2, 32, .inr (.inl (fun _ => 0)))), (q_2, .inl (cy 1, 4, .inl (fun _ => 0))), (q_3, .inl (cy 1, 6, .inl (fun _ => 0))), (q_4, .inl (cy 1, 6, .inl (fun _ => 0))), (q_5, .inl (cy 1, 8, .inl (fun _ => 0)))] := hD
  refine lv_aload_n hx hb dX3_init_66 rfl (lv_at hl 0 rfl) ?_
  refine lv_iconst (v := 0) hx hb dX3_init_67 (by decide) ?_
  refine va_put (D := D) (ci := 3) (v := .int 0) (ty := .boolean) (C := RX3) (T := TX3) (N := 9) hx hb hts inX3 tyX3 tyX3_ok nmX3 hown hK hP hD hS 0 rfl rfl 8 (by decide) (hts _ tw_220) (fun _ h9 => h9) rfl (by decide +kernel) rfl rfl (Nat.le_of_ble_eq_true rfl) dX3_init_68 (fun H locs hP hD hS => ?_)
  have hP : va_P D classes [(h, .inr (3, [.ref q_1, .ref q_2, .ref q_3, .ref q_4, .ref q_5, .int 0, .int 5, .int 0, .int 0])), (q_1, .inl (cy 2, 32, .inr (.inl (fun _ => 0)))), (q_2, .inl (cy 1, 4, .inl (fun _ => 0))), (q_3, .inl (cy 1, 6, .inl (fun _ => 0))), (q_4, .inl (cy 1, 6, .inl (fun _ => 0))), (q_5, .inl (cy 1, 8, .inl (fun _ => 0)))] H := hP
  have hD : va_D A [(h, .inr (3, [.ref q_1, .ref q_2, .ref q_3, .ref q_4, .ref q_5, .int 0, .int 5, .int 0, .int 0])), (q_1, .inl (cy 2, 32, .inr (.inl (fun _ => 0)))), (q_2, .inl (cy 1, 4, .inl (fun _ => 0))), (q_3, .inl (cy 1, 6, .inl (fun _ => 0))), (q_4, .inl (cy 1, 6, .inl (fun _ => 0))), (q_5, .inl (cy 1, 8, .inl (fun _ => 0)))] := hD
  have hP9 : va_P D classes [(h, .inr (3, [.ref q_1, .ref q_2, .ref q_3, .ref q_4, .ref q_5, .int 0, .int 5, .int 0, .int 0])), (q_1, .inl (cy 2, 32, .inr (.inl (fun _ => 0)))), (q_2, .inl (cy 1, 4, .inl (fun _ => 0))), (q_3, .inl (cy 1, 6, .inl (fun _ => 0))), (q_4, .inl (cy 1, 6, .inl (fun _ => 0))), (q_5, .inl (cy 1, 8, .inl (fun _ => 0)))] H := subP hP [0, 1, 2, 3, 4, 5] rfl
  have hD9 : va_D A [(h, .inr (3, [.ref q_1, .ref q_2, .ref q_3, .ref q_4, .ref q_5, .int 0, .int 5, .int 0, .int 0])), (q_1, .inl (cy 2, 32, .inr (.inl (fun _ => 0)))), (q_2, .inl (cy 1, 4, .inl (fun _ => 0))), (q_3, .inl (cy 1, 6, .inl (fun _ => 0))), (q_4, .inl (cy 1, 6, .inl (fun _ => 0))), (q_5, .inl (cy 1, 8, .inl (fun _ => 0)))] := hD.sub [0, 1, 2, 3, 4, 5] (by decide) rfl
  refine W.widen (k := 5) (n := 56) (Nat.le_of_ble_eq_true rfl) (Nat.le_of_ble_eq_true rfl) ?_
  exact W.vret hx hb hr (fun t ht hW => ⟨⟨((q_1), (q_2), (q_3), (q_4), (q_5)), rfl, trivial, by rw [ht]; exact hP9, va_K.moved hW.alike hK, hD9⟩, hS.F ht⟩) hS.2.2 dX3_init_71
set_option maxHeartbeats 4000000 in
set_option maxRecDepth 100000 in
theorem c_Image_init (l : Launch) (D : va_G) (cy : Nat → ClassId) (z : Nat → Nat) (sz : Nat) (h : Nat) (pt : Nat) : Met l yX2_init (Cond.code yX2_init cX2_init 2 none :: gT) ({ frames := 3, cells := 11, slots := 111, locals := 600 } : Room) (va_Pc [.ref h, .ref pt] (PRE D cy z [(h, .inr (2, [.null, .null, .int 0]))] sz)) (va_Qv (fun (u : (Nat) × (Nat) × (Nat) × (Nat) × (Nat) × (Nat) × (Nat) × (Nat) × (Nat) × (Nat) × (Nat)) => True) (BB D cy (va_A [(h, .inr (2, [.null, .null, .int 0]))] sz) (fun (u : (Nat) × (Nat) × (Nat) × (Nat) × (Nat) × (Nat) × (Nat) × (Nat) × (Nat) × (Nat) × (Nat)) => [(h, .inr (2, [.ref u.1, .null, .int 0])), (u.1, .inr (8, [.ref pt, .int 0, .ref u.2.1, .ref u.2.2.1, .ref u.2.2.2.1, .ref u.2.2.2.2.1, .ref u.2.2.2.2.2.1, .ref u.2.2.2.2.2.2.1, .ref u.2.2.2.2.2.2.2.1, .ref u.2.2.2.2.2.2.2.2.1, .ref u.2.2.2.2.2.2.2.2.2.1, .ref u.2.2.2.2.2.2.2.2.2.2, .int 0])), (u.2.1, .inl (cy 1, 36, .inl (fun _ => 0))), (u.2.2.1, .inl (cy 1, 6, .inl (fun _ => 0))), (u.2.2.2.1, .inl (cy 1, 6, .inl (fun _ => 0))), (u.2.2.2.2.1, .inl (cy 1, 6, .inl (fun _ => 0))), (u.2.2.2.2.2.1, .inl (cy 1, 6, .inl (fun _ => 0))), (u.2.2.2.2.2.2.1, .inl (cy 1, 8, .inl (fun _ => 0))), (u.2.2.2.2.2.2.2.2.1, .inl (cy 1, 8, .inl (fun _ => 0))), (u.2.2.2.2.2.2.2.2.2.1, .inl (cy 1, 8, .inl (fun _ => 0))), (u.2.2.2.2.2.2.2.2.2.2, .inl (cy 1, 6, .inl (fun _ => 0))), (u.2.2.2.2.2.2.2.1, .inl (cy 1, 8, .inl (fun _ => (-1))))])) (va_A [(h, .inr (2, [.null, .null, .int 0]))] sz)) 11 111 (va_A [(h, .inr (2, [.null, .null, .int 0]))] sz) := by
  refine Met.ofW (cc := cX2_init) (maxL := 2) (ret := none) (by decide) rfl ?_
  intro p e s m args below meth c s₁ B hml hv
  obtain ⟨rfl, hsz, hP, hK, hD0, hSD⟩ := hv
  have hx := B.exec
  have hb := B.bytes
  have hr := B.returns
  have hlocks := B.notSynchronized
  have hts : ∀ w ∈ gT, w.before _ s = true := fun w h => atoms_spec (ws := Cond.code yX2_init cX2_init 2 none :: gT) B.pre w (List.mem_cons_of_mem _ h)
  have hown : s.vm.findClass RX2 = some m.cls := findClass_of_methodNamed B.named
  have hin : meth.name = "<init>" := (name_of_methodNamed B.named B.method).1
  subst hsz
  have hD := hD0.self (sz := s.heap.size)
  generalize hAe : va_A [(h, .inr (2, [.null, .null, .int 0]))] s.heap.size = A at hD hSD ⊢
  have hA : ∀ q : Nat, s.heap.size ≤ q → A q := fun q h => by rw [← hAe]; exact Or.inr h
  have hS : va_S A s.heap s.heap [] := va_S.rf
  have hl := lv_entry ([.ref h, .ref pt]) (n := 2) (Nat.le_of_ble_eq_true rfl)
  rw [lg_entry_eq]
  generalize (lg_sl ([.ref h, .ref pt]) ++ List.replicate (2 - (lg_sl ([.ref h, .ref pt])).length) Slot.unset).toArray = ls at hl ⊢
  have hl : lv_has ls 2 [(0, .ref h), (1, .ref pt)] := hl
  refine lv_aload_n hx hb dX2_init_0 rfl (lv_at hl 0 rfl) ?_
  refine W.objInit hx hb hown (hts _ tw_329) (hts _ tw_30) (hts _ tw_31) rfl (by rw [hml]; exact hl.1) rfl dX2_init_1 (Nat.le_of_ble_eq_true rfl) (Nat.le_of_ble_eq_true rfl) ?_
  refine W.eq (g2 := F0 m 4 ls []) rfl ?_
  refine lv_aload_n hx hb dX2_init_4 rfl (lv_at hl 0 rfl) ?_
  refine lv_null hx hb dX2_init_5 ?_
  refine va_put (D := D) (ci := 2) (v := .null) (ty := .object "WonderParcels$Sentence") (C := RX2) (T := TX2) (N := 3) hx hb hts inX2 tyX2 tyX2_ok nmX2 hown hK hP hD hS 0 rfl rfl 1 (by decide) (hts _ tw_334) (fun _ h9 => h9) rfl (by decide +kernel) rfl rfl (Nat.le_of_ble_eq_true rfl) dX2_init_6 (fun H locs hP hD hS => ?_)
  have hP : va_P D classes [(h, .inr (2, [.null, .null, .int 0]))] H := hP
  have hD : va_D A [(h, .inr (2, [.null, .null, .int 0]))] := hD
  refine lv_aload_n hx hb dX2_init_9 rfl (lv_at hl 0 rfl) ?_
  refine lv_iconst (v := 0) hx hb dX2_init_10 (by decide) ?_
  refine va_put (D := D) (ci := 2) (v := .int 0) (ty := .boolean) (C := RX2) (T := TX2) (N := 3) hx hb hts inX2 tyX2 tyX2_ok nmX2 hown hK hP hD hS 0 rfl rfl 2 (by decide) (hts _ tw_336) (fun _ h9 => h9) rfl (by decide +kernel) rfl rfl (Nat.le_of_ble_eq_true rfl) dX2_init_11 (fun H locs hP hD hS => ?_)
  have hP : va_P D classes [(h, .inr (2, [.null, .null, .int 0]))] H := hP
  have hD : va_D A [(h, .inr (2, [.null, .null, .int 0]))] := hD
  refine lv_aload_n hx hb dX2_init_14 rfl (lv_at hl 0 rfl) ?_
  refine va_new (ci := 8) (fs := [.null, .int 0, .null, .null, .null, .null, .null, .null, .null, .null, .null, .null, .int 0]) (C := RX8) (T := TX8) (N := 13) hx hb hts inX8 tyX8 tyX8_ok hown (hts _ tw_330) (hts _ tw_241) (hts _ tw_12) hK hP hD hS hA rfl (dfX8) (Nat.le_of_ble_eq_true rfl) (Nat.le_of_ble_eq_true rfl) dX2_init_15 (fun q_1 H hP hD hS => ?_)
  have hP : va_P D classes [(h, .inr (2, [.null, .null, .int 0])), (q_1, .inr (8, [.null, .int 0, .null, .null, .null, .null, .null, .null, .null, .null, .null, .null, .int 0]))] H := hP
  have hD : va_D A [(h, .inr (2, [.null, .null, .int 0])), (q_1, .inr (8, [.null, .int 0, .null, .null, .null, .null, .null, .null, .null, .null, .null, .null, .int 0]))] := hD
  refine W.widen (k := 1) (n := 13) (Nat.le_of_ble_eq_true rfl) (Nat.le_of_ble_eq_true rfl) ?_
  refine lv_dup hx hb dX2_init_18 rfl ?_
  refine lv_aload_n hx hb dX2_init_19 rfl (lv_at hl 1 rfl) ?_
  refine endv (wr := [(h, .inr (2, [.null, .null, .int 0]))]) (va_runI (As := [.ref pt]) (rest := [.ref q_1, .ref h]) ⟨hx, hb, hml, hown, hts⟩ (c_World_init l D cy z H.size q_1 pt) (cwI 1 hts (gC tw_244) rfl rfl rfl (hts _ tw_12) (hts _ tw_331) (hts _ tw_243) rfl (by decide +kernel) ⟨Nat.le_of_ble_eq_true rfl, Nat.le_of_ble_eq_true rfl⟩) (preS hP hD hK hSD hS hA [1] rfl (by decide)) rfl rfl hl.1 rfl (lv_room (Nat.le_of_ble_eq_true rfl)) dX2_init_20 ⟨Nat.le_of_ble_eq_true rfl, Nat.le_of_ble_eq_true rfl⟩) hP hD hS hA [1] [0] rfl rfl (by decide) (by decide) (fun u_2 H locs hw_3 hP hD hS => ?_)
  obtain ⟨q_4, q_5, q_6, q_7, q_8, q_9, q_10, q_11, q_12, q_13⟩ := u_2
  have hP : va_P D classes [(h, .inr (2, [.null, .null, .int 0])), (q_1, .inr (8, [.ref pt, .int 0, .ref q_4, .ref q_5, .ref q_6, .ref q_7, .ref q_8, .ref q_9, .ref q_10, .ref q_11, .ref q_12, .ref q_13, .int 0])), (q_4, .inl (cy 1, 36, .inl (fun _ => 0))), (q_5, .inl (cy 1, 6, .inl (fun _ => 0))), (q_6, .inl (cy 1, 6, .inl (fun _ => 0))), (q_7, .inl (cy 1, 6, .inl (fun _ => 0))), (q_8, .inl (cy 1, 6, .inl (fun _ => 0))), (q_9, .inl (cy 1, 8, .inl (fun _ => 0))), (q_11, .inl (cy 1, 8, .inl (fun _ => 0))), (q_12, .inl (cy 1, 8, .inl (fun _ => 0))), (q_13, .inl (cy 1, 6, .inl (fun _ => 0))), (q_10, .inl (cy 1, 8, .inl (fun _ => (-1))))] H := hP
  have hD : va_D A [(h, .inr (2, [.null, .null, .int 0])), (q_1, .inr (8, [.ref pt, .int 0, .ref q_4, .ref q_5, .ref q_6, .ref q_7, .ref q_8, .ref q_9, .ref q_10, .ref q_11, .ref q_12, .ref q_13, .int 0])), (q_4, .inl (cy 1, 36, .inl (fun _ => 0))), (q_5, .inl (cy 1, 6, .inl (fun _ => 0))), (q_6, .inl (cy 1, 6, .inl (fun _ => 0))), (q_7, .inl (cy 1, 6, .inl (fun _ => 0))), (q_8, .inl (cy 1, 6, .inl (fun _ => 0))), (q_9, .inl (cy 1, 8, .inl (fun _ => 0))), (q_11, .inl (cy 1, 8, .inl (fun _ => 0))), (q_12, .inl (cy 1, 8, .inl (fun _ => 0))), (q_13, .inl (cy 1, 6, .inl (fun _ => 0))), (q_10, .inl (cy 1, 8, .inl (fun _ => (-1))))] := hD
  refine W.widen (k := 11) (n := 111) (Nat.le_of_ble_eq_true rfl) (Nat.le_of_ble_eq_true rfl) ?_
  refine va_putF (D := D) (ci := 2) (v := .ref q_1) (ty := .object "WonderParcels$World") (C := RX2) (T := TX2) (N := 3) hx hb hts inX2 tyX2 tyX2_ok nmX2 hown hK hP hD hS 0 rfl rfl 0 (by decide) (hts _ tw_332) (fun _ h9 => h9) rfl hin rfl (by decide +kernel) rfl rfl (Nat.le_of_ble_eq_true rfl) dX2_init_23 (fun H locs hP hD hS => ?_)
  have hP : va_P D classes [(h, .inr (2, [.ref q_1, .null, .int 0])), (q_1, .inr (8, [.ref pt, .int 0, .ref q_4, .ref q_5, .ref q_6, .ref q_7, .ref q_8, .ref q_9, .ref q_10, .ref q_11, .ref q_12, .ref q_13, .int 0])), (q_4, .inl (cy 1, 36, .inl (fun _ => 0))), (q_5, .inl (cy 1, 6, .inl (fun _ => 0))), (q_6, .inl (cy 1, 6, .inl (fun _ => 0))), (q_7, .inl (cy 1, 6, .inl (fun _ => 0))), (q_8, .inl (cy 1, 6, .inl (fun _ => 0))), (q_9, .inl (cy 1, 8, .inl (fun _ => 0))), (q_11, .inl (cy 1, 8, .inl (fun _ => 0))), (q_12, .inl (cy 1, 8, .inl (fun _ => 0))), (q_13, .inl (cy 1, 6, .inl (fun _ => 0))), (q_10, .inl (cy 1, 8, .inl (fun _ => (-1))))] H := hP
  have hD : va_D A [(h, .inr (2, [.ref q_1, .null, .int 0])), (q_1, .inr (8, [.ref pt, .int 0, .ref q_4, .ref q_5, .ref q_6, .ref q_7, .ref q_8, .ref q_9, .ref q_10, .ref q_11, .ref q_12, .ref q_13, .int 0])), (q_4, .inl (cy 1, 36, .inl (fun _ => 0))), (q_5, .inl (cy 1, 6, .inl (fun _ => 0))), (q_6, .inl (cy 1, 6, .inl (fun _ => 0))), (q_7, .inl (cy 1, 6, .inl (fun _ => 0))), (q_8, .inl (cy 1, 6, .inl (fun _ => 0))), (q_9, .inl (cy 1, 8, .inl (fun _ => 0))), (q_11, .inl (cy 1, 8, .inl (fun _ => 0))), (q_12, .inl (cy 1, 8, .inl (fun _ => 0))), (q_13, .inl (cy 1, 6, .inl (fun _ => 0))), (q_10, .inl (cy 1, 8, .inl (fun _ => (-1))))] := hD
  have hP9 : va_P D classes [(h, .inr (2, [.ref q_1, .null, .int 0])), (q_1, .inr (8, [.ref pt, .int 0, .ref q_4, .ref q_5, .ref q_6, .ref q_7, .ref q_8, .ref q_9, .ref q_10, .ref q_11, .ref q_12, .ref q_13, .int 0])), (q_4, .inl (cy 1, 36, .inl (fun _ => 0))), (q_5, .inl (cy 1, 6, .inl (fun _ => 0))), (q_6, .inl (cy 1, 6, .inl (fun _ => 0))), (q_7, .inl (cy 1, 6, .inl (fun _ => 0))), (q_8, .inl (cy 1, 6, .inl (fun _ => 0))), (q_9, .inl (cy 1, 8, .inl (fun _ => 0))), (q_11, .inl (cy 1, 8, .inl (fun _ => 0))), (q_12, .inl (cy 1, 8, .inl (fun _ => 0))), (q_13, .inl (cy 1, 6, .inl (fun _ => 0))), (q_10, .inl (cy 1, 8, .inl (fun _ => (-1))))] H := subP hP [0, 1, 2, 3, 4, 5, 6, 7, 8, 9, 10, 11] rfl
  have hD9 : va_D A [(h, .inr (2, [.ref q_1, .null, .int 0])), (q_1, .inr (8, [.ref pt, .int 0, .ref q_4, .ref q_5, .ref q_6, .ref q_7, .ref q_8, .ref q_9, .ref q_10, .ref q_11, .ref q_12, .ref q_13, .int 0])), (q_4, .inl (cy 1, 36, .inl (fun _ => 0))), (q_5, .inl (cy 1, 6, .inl (fun _ => 0))), (q_6, .inl (cy 1, 6, .inl (fun _ => 0))), (q_7, .inl (cy 1, 6, .inl (fun _ => 0))), (q_8, .inl (cy 1, 6, .inl (fun _ => 0))), (q_9, .inl (cy 1, 8, .inl (fun _ => 0))), (q_11, .inl (cy 1, 8, .inl (fun _ => 0))), (q_12, .inl (cy 1, 8, .inl (fun _ => 0))), (q_13, .inl (cy 1, 6, .inl (fun _ => 0))), (q_10, .inl (cy 1, 8, .inl (fun _ => (-1))))] := hD.sub [0, 1, 2, 3, 4, 5, 6, 7, 8, 9, 10, 11] (by decide) rfl
  refine W.widen (k := 11) (n := 111) (Nat.le_of_ble_eq_true rfl) (Nat.le_of_ble_eq_true rfl) ?_
  exact W.vret hx hb hr (fun t ht hW => ⟨⟨((q_1), (q_4), (q_5), (q_6), (q_7), (q_8), (q_9), (q_10), (q_11), (q_12), (q_13)), rfl, trivial, by rw [ht]; exact hP9, va_K.moved hW.alike hK, hD9⟩, hS.F ht⟩) hS.2.2 dX2_init_26
set_option maxHeartbeats 4000000 in
set_option maxRecDepth 100000 in
theorem c_History_init (l : Launch) (D : va_G) (cy : Nat → ClassId) (z : Nat → Nat) (sz : Nat) (h : Nat) (pt : Nat) : Met l yX1_init (Cond.code yX1_init cX1_init 3 none :: gT) ({ frames := 3, cells := 100, slots := 1008, locals := 600 } : Room) (va_Pc [.ref h, .ref pt] (PRE D cy z [(h, .inr (1, [.null, .int 0, .int 0]))] sz)) (va_Qv (fun (u : (Nat) × (Nat) × (Nat) × (Nat) × (Nat) × (Nat) × (Nat) × (Nat) × (Nat) × (Nat) × (Nat) × (Nat) × (Nat → Option Nat)) => u.2.2.2.2.2.2.2.2.2.2.2.2 0 = some u.2.1) (BB D cy (va_A [(h, .inr (1, [.null, .int 0, .int 0]))] sz) (fun (u : (Nat) × (Nat) × (Nat) × (Nat) × (Nat) × (Nat) × (Nat) × (Nat) × (Nat) × (Nat) × (Nat) × (Nat) × (Nat → Option Nat)) => [(h, .inr (1, [.ref u.1, .int 0, .int 0])), (u.1, .inl (cy 4, 9, .inr (.inr (.inr (.inr u.2.2.2.2.2.2.2.2.2.2.2.2))))), (u.2.1, .inr (8, [.ref pt, .int 0, .ref u.2.2.1, .ref u.2.2.2.1, .ref u.2.2.2.2.1, .ref u.2.2.2.2.2.1, .ref u.2.2.2.2.2.2.1, .ref u.2.2.2.2.2.2.2.1, .ref u.2.2.2.2.2.2.2.2.1, .ref u.2.2.2.2.2.2.2.2.2.1, .ref u.2.2.2.2.2.2.2.2.2.2.1, .ref u.2.2.2.2.2.2.2.2.2.2.2.1, .int 0])), (u.2.2.1, .inl (cy 1, 36, .inl (fun _ => 0))), (u.2.2.2.1, .inl (cy 1, 6, .inl (fun _ => 0))), (u.2.2.2.2.1, .inl (cy 1, 6, .inl (fun _ => 0))), (u.2.2.2.2.2.1, .inl (cy 1, 6, .inl (fun _ => 0))), (u.2.2.2.2.2.2.1, .inl (cy 1, 6, .inl (fun _ => 0))), (u.2.2.2.2.2.2.2.1, .inl (cy 1, 8, .inl (fun _ => 0))), (u.2.2.2.2.2.2.2.2.2.1, .inl (cy 1, 8, .inl (fun _ => 0))), (u.2.2.2.2.2.2.2.2.2.2.1, .inl (cy 1, 8, .inl (fun _ => 0))), (u.2.2.2.2.2.2.2.2.2.2.2.1, .inl (cy 1, 6, .inl (fun _ => 0))), (u.2.2.2.2.2.2.2.2.1, .inl (cy 1, 8, .inl (fun _ => (-1))))])) (va_A [(h, .inr (1, [.null, .int 0, .int 0]))] sz)) 100 1008 (va_A [(h, .inr (1, [.null, .int 0, .int 0]))] sz) := by
  refine Met.ofW (cc := cX1_init) (maxL := 3) (ret := none) (by decide) rfl ?_
  intro p e s m args below meth c s₁ B hml hv
  obtain ⟨rfl, hsz, hP, hK, hD0, hSD⟩ := hv
  have hx := B.exec
  have hb := B.bytes
  have hr := B.returns
  have hlocks := B.notSynchronized
  have hts : ∀ w ∈ gT, w.before _ s = true := fun w h => atoms_spec (ws := Cond.code yX1_init cX1_init 3 none :: gT) B.pre w (List.mem_cons_of_mem _ h)
  have hown : s.vm.findClass RX1 = some m.cls := findClass_of_methodNamed B.named
  have hin : meth.name = "<init>" := (name_of_methodNamed B.named B.method).1
  subst hsz
  have hD := hD0.self (sz := s.heap.size)
  generalize hAe : va_A [(h, .inr (1, [.null, .int 0, .int 0]))] s.heap.size = A at hD hSD ⊢
  have hA : ∀ q : Nat, s.heap.size ≤ q → A q := fun q h => by rw [← hAe]; exact Or.inr h
  have hS : va_S A s.heap s.heap [] := va_S.rf
  have hl := lv_entry ([.ref h, .ref pt]) (n := 3) (Nat.le_of_ble_eq_true rfl)
  rw [lg_entry_eq]
  generalize (lg_sl ([.ref h, .ref pt]) ++ List.replicate (3 - (lg_sl ([.ref h, .ref pt])).length) Slot.unset).toArray = ls at hl ⊢
  have hl : lv_has ls 3 [(0, .ref h), (1, .ref pt)] := hl
  refine lv_aload_n hx hb dX1_init_0 rfl (lv_at hl 0 rfl) ?_
  refine W.objInit hx hb hown (hts _ tw_309) (hts _ tw_30) (hts _ tw_31) rfl (by rw [hml]; exact hl.1) rfl dX1_init_1 (Nat.le_of_ble_eq_true rfl) (Nat.le_of_ble_eq_true rfl) ?_
  refine W.eq (g2 := F0 m 4 ls []) rfl ?_
  refine lv_aload_n hx hb dX1_init_4 rfl (lv_at hl 0 rfl) ?_
  refine lv_bipush (v := 9) hx hb dX1_init_5 (by decide) ?_
  refine newqC (C := "WonderParcels$World") (N' := 9) hx hb hown (hts _ tw_310) hSD.2.1 hK hP hD hS hA 4 rfl (by decide) (by decide) (by decide) (Nat.le_of_ble_eq_true rfl) (Nat.le_of_ble_eq_true rfl) dX1_init_7 (fun q_1 H hP hD hS => ?_)
  have hP : va_P D classes [(h, .inr (1, [.null, .int 0, .int 0])), (q_1, .inl (cy 4, 9, .inr (.inr (.inr (.inr (fun _ => none))))))] H := hP
  have hD : va_D A [(h, .inr (1, [.null, .int 0, .int 0])), (q_1, .inl (cy 4, 9, .inr (.inr (.inr (.inr (fun _ => none))))))] := hD
  refine W.widen (k := 1) (n := 9) (Nat.le_of_ble_eq_true rfl) (Nat.le_of_ble_eq_true rfl) ?_
  refine va_putF (D := D) (ci := 1) (v := .ref q_1) (ty := .array (.object "WonderParcels$World")) (C := RX1) (T := TX1) (N := 3) hx hb hts inX1 tyX1 tyX1_ok nmX1 hown hK hP hD hS 0 rfl rfl 0 (by decide) (hts _ tw_313) (fun _ h9 => h9) rfl hin rfl (by decide +kernel) rfl rfl (Nat.le_of_ble_eq_true rfl) dX1_init_10 (fun H locs hP hD hS => ?_)
  have hP : va_P D classes [(h, .inr (1, [.ref q_1, .int 0, .int 0])), (q_1, .inl (cy 4, 9, .inr (.inr (.inr (.inr (fun _ => none))))))] H := hP
  have hD : va_D A [(h, .inr (1, [.ref q_1, .int 0, .int 0])), (q_1, .inl (cy 4, 9, .inr (.inr (.inr (.inr (fun _ => none))))))] := hD
  refine lv_aload_n hx hb dX1_init_13 rfl (lv_at hl 0 rfl) ?_
  refine lv_iconst (v := 0) hx hb dX1_init_14 (by decide) ?_
  refine va_put (D := D) (ci := 1) (v := .int 0) (ty := .int) (C := RX1) (T := TX1) (N := 3) hx hb hts inX1 tyX1 tyX1_ok nmX1 hown hK hP hD hS 0 rfl rfl 1 (by decide) (hts _ tw_314) (fun _ h9 => h9) rfl (by decide +kernel) rfl rfl (Nat.le_of_ble_eq_true rfl) dX1_init_15 (fun H locs hP hD hS => ?_)
  have hP : va_P D classes [(h, .inr (1, [.ref q_1, .int 0, .int 0])), (q_1, .inl (cy 4, 9, .inr (.inr (.inr (.inr (fun _ => none))))))] H := hP
  have hD : va_D A [(h, .inr (1, [.ref q_1, .int 0, .int 0])), (q_1, .inl (cy 4, 9, .inr (.inr (.inr (.inr (fun _ => none))))))] := hD
  refine lv_aload_n hx hb dX1_init_18 rfl (lv_at hl 0 rfl) ?_
  refine lv_iconst (v := 0) hx hb dX1_init_19 (by decide) ?_
  refine va_put (D := D) (ci := 1) (v := .int 0) (ty := .int) (C := RX1) (T := TX1) (N := 3) hx hb hts inX1 tyX1 tyX1_ok nmX1 hown hK hP hD hS 0 rfl rfl 2 (by decide) (hts _ tw_315) (fun _ h9 => h9) rfl (by decide +kernel) rfl rfl (Nat.le_of_ble_eq_true rfl) dX1_init_20 (fun H locs hP hD hS => ?_)
  have hP : va_P D classes [(h, .inr (1, [.ref q_1, .int 0, .int 0])), (q_1, .inl (cy 4, 9, .inr (.inr (.inr (.inr (fun _ => none))))))] H := hP
  have hD : va_D A [(h, .inr (1, [.ref q_1, .int 0, .int 0])), (q_1, .inl (cy 4, 9, .inr (.inr (.inr (.inr (fun _ => none))))))] := hD
  refine lv_iconst (v := 0) hx hb dX1_init_23 (by decide) ?_
  refine lv_istore_n (lv' := [(2, .int 0), (0, .ref h), (1, .ref pt)]) hx hb dX1_init_24 rfl hl (by decide) rfl (fun ls hl => ?_)
  refine lv_iload_n hx hb dX1_init_25 rfl (lv_at hl 0 rfl) ?_
  refine lv_bipush (v := 9) hx hb dX1_init_26 (by decide) ?_
  refine lv_icmp_ge (tgt := 51) hx hb dX1_init_28 (by decide) (fun c9 => absurd c9 (by decide)) (fun _ => ?_)
  refine lv_aload_n hx hb dX1_init_31 rfl (lv_at hl 1 rfl) ?_
  refine va_get (D := D) (ci := 1) (v := .ref q_1) (C := RX1) (T := TX1) (N := 3) hx hb hts inX1 hown hK hP 0 rfl rfl 0 (by decide) (hts _ tw_313) (fun _ h9 => h9) rfl dX1_init_32 ?_
  refine lv_iload_n hx hb dX1_init_35 rfl (lv_at hl 0 rfl) ?_
  refine va_new (ci := 8) (fs := [.null, .int 0, .null, .null, .null, .null, .null, .null, .null, .null, .null, .null, .int 0]) (C := RX8) (T := TX8) (N := 13) hx hb hts inX8 tyX8 tyX8_ok hown (hts _ tw_310) (hts _ tw_241) (hts _ tw_12) hK hP hD hS hA rfl (dfX8) (Nat.le_of_ble_eq_true rfl) (Nat.le_of_ble_eq_true rfl) dX1_init_36 (fun q_2 H hP hD hS => ?_)
  have hP : va_P D classes [(h, .inr (1, [.ref q_1, .int 0, .int 0])), (q_1, .inl (cy 4, 9, .inr (.inr (.inr (.inr (fun _ => none)))))), (q_2, .inr (8, [.null, .int 0, .null, .null, .null, .null, .null, .null, .null, .null, .null, .null, .int 0]))] H := hP
  have hD : va_D A [(h, .inr (1, [.ref q_1, .int 0, .int 0])), (q_1, .inl (cy 4, 9, .inr (.inr (.inr (.inr (fun _ => none)))))), (q_2, .inr (8, [.null, .int 0, .null, .null, .null, .null, .null, .null, .null, .null, .null, .null, .int 0]))] := hD
  refine W.widen (k := 2) (n := 22) (Nat.le_of_ble_eq_true rfl) (Nat.le_of_ble_eq_true rfl) ?_
  refine lv_dup hx hb dX1_init_39 rfl ?_
  refine lv_aload_n hx hb dX1_init_40 rfl (lv_at hl 2 rfl) ?_
  refine endv (wr := [(h, .inr (1, [.ref q_1, .int 0, .int 0])), (q_1, .inl (cy 4, 9, .inr (.inr (.inr (.inr (fun _ => none))))))]) (va_runI (As := [.ref pt]) (rest := [.ref q_2, .int 0, .ref q_1]) ⟨hx, hb, hml, hown, hts⟩ (c_World_init l D cy z H.size q_2 pt) (cwI 1 hts (gC tw_244) rfl rfl rfl (hts _ tw_12) (hts _ tw_312) (hts _ tw_243) rfl (by decide +kernel) ⟨Nat.le_of_ble_eq_true rfl, Nat.le_of_ble_eq_true rfl⟩) (preS hP hD hK hSD hS hA [2] rfl (by decide)) rfl rfl hl.1 rfl (lv_room (Nat.le_of_ble_eq_true rfl)) dX1_init_41 ⟨Nat.le_of_ble_eq_true rfl, Nat.le_of_ble_eq_true rfl⟩) hP hD hS hA [2] [0, 1] rfl rfl (by decide) (by decide) (fun u_3 H locs hw_4 hP hD hS => ?_)
  obtain ⟨q_5, q_6, q_7, q_8, q_9, q_10, q_11, q_12, q_13, q_14⟩ := u_3
  have hP : va_P D classes [(h, .inr (1, [.ref q_1, .int 0, .int 0])), (q_1, .inl (cy 4, 9, .inr (.inr (.inr (.inr (fun _ => none)))))), (q_2, .inr (8, [.ref pt, .int 0, .ref q_5, .ref q_6, .ref q_7, .ref q_8, .ref q_9, .ref q_10, .ref q_11, .ref q_12, .ref q_13, .ref q_14, .int 0])), (q_5, .inl (cy 1, 36, .inl (fun _ => 0))), (q_6, .inl (cy 1, 6, .inl (fun _ => 0))), (q_7, .inl (cy 1, 6, .inl (fun _ => 0))), (q_8, .inl (cy 1, 6, .inl (fun _ => 0))), (q_9, .inl (cy 1, 6, .inl (fun _ => 0))), (q_10, .inl (cy 1, 8, .inl (fun _ => 0))), (q_12, .inl (cy 1, 8, .inl (fun _ => 0))), (q_13, .inl (cy 1, 8, .inl (fun _ => 0))), (q_14, .inl (cy 1, 6, .inl (fun _ => 0))), (q_11, .inl (cy 1, 8, .inl (fun _ => (-1))))] H := hP
  have hD : va_D A [(h, .inr (1, [.ref q_1, .int 0, .int 0])), (q_1, .inl (cy 4, 9, .inr (.inr (.inr (.inr (fun _ => none)))))), (q_2, .inr (8, [.ref pt, .int 0, .ref q_5, .ref q_6, .ref q_7, .ref q_8, .ref q_9, .ref q_10, .ref q_11, .ref q_12, .ref q_13, .ref q_14, .int 0])), (q_5, .inl (cy 1, 36, .inl (fun _ => 0))), (q_6, .inl (cy 1, 6, .inl (fun _ => 0))), (q_7, .inl (cy 1, 6, .inl (fun _ => 0))), (q_8, .inl (cy 1, 6, .inl (fun _ => 0))), (q_9, .inl (cy 1, 6, .inl (fun _ => 0))), (q_10, .inl (cy 1, 8, .inl (fun _ => 0))), (q_12, .inl (cy 1, 8, .inl (fun _ => 0))), (q_13, .inl (cy 1, 8, .inl (fun _ => 0))), (q_14, .inl (cy 1, 6, .inl (fun _ => 0))), (q_11, .inl (cy 1, 8, .inl (fun _ => (-1))))] := hD
  refine W.widen (k := 12) (n := 120) (Nat.le_of_ble_eq_true rfl) (Nat.le_of_ble_eq_true rfl) ?_
  refine va_astq (r := (RX8, TX8, 13)) hx hb hK hP hD hS 1 4 2 8 rfl rfl rfl rfl (vp_in_nI (n := 0) (N := 9) (by decide) (by decide)) dX1_init_44 (fun H locs hP hD hS => ?_)
  obtain ⟨g_15, eg_15⟩ : ∃ g, g = va_up (fun _ => none) (Int32.toNatClampNeg 0) (some q_2) := ⟨_, rfl⟩
  have hP : va_P D classes [(h, .inr (1, [.ref q_1, .int 0, .int 0])), (q_1, .inl (cy 4, 9, .inr (.inr (.inr (.inr g_15))))), (q_2, .inr (8, [.ref pt, .int 0, .ref q_5, .ref q_6, .ref q_7, .ref q_8, .ref q_9, .ref q_10, .ref q_11, .ref q_12, .ref q_13, .ref q_14, .int 0])), (q_5, .inl (cy 1, 36, .inl (fun _ => 0))), (q_6, .inl (cy 1, 6, .inl (fun _ => 0))), (q_7, .inl (cy 1, 6, .inl (fun _ => 0))), (q_8, .inl (cy 1, 6, .inl (fun _ => 0))), (q_9, .inl (cy 1, 6, .inl (fun _ => 0))), (q_10, .inl (cy 1, 8, .inl (fun _ => 0))), (q_12, .inl (cy 1, 8, .inl (fun _ => 0))), (q_13, .inl (cy 1, 8, .inl (fun _ => 0))), (q_14, .inl (cy 1, 6, .inl (fun _ => 0))), (q_11, .inl (cy 1, 8, .inl (fun _ => (-1))))] H := by rw [eg_15]; exact hP
  have hD : va_D A [(h, .inr (1, [.ref q_1, .int 0, .int 0])), (q_1, .inl (cy 4, 9, .inr (.inr (.inr (.inr g_15))))), (q_2, .inr (8, [.ref pt, .int 0, .ref q_5, .ref q_6, .ref q_7, .ref q_8, .ref q_9, .ref q_10, .ref q_11, .ref q_12, .ref q_13, .ref q_14, .int 0])), (q_5, .inl (cy 1, 36, .inl (fun _ => 0))), (q_6, .inl (cy 1, 6, .inl (fun _ => 0))), (q_7, .inl (cy 1, 6, .inl (fun _ => 0))), (q_8, .inl (cy 1, 6, .inl (fun _ => 0))), (q_9, .inl (cy 1, 6, .inl (fun _ => 0))), (q_10, .inl (cy 1, 8, .inl (fun _ => 0))), (q_12, .inl (cy 1, 8, .inl (fun _ => 0))), (q_13, .inl (cy 1, 8, .inl (fun _ => 0))), (q_14, .inl (cy 1, 6, .inl (fun _ => 0))), (q_11, .inl (cy 1, 8, .inl (fun _ => (-1))))] := by rw [eg_15]; exact hD
  refine lv_iinc (v := 1) (lv' := [(2, .int 1), (0, .ref h), (1, .ref pt)]) hx hb dX1_init_45 hl (k := 0) rfl (by decide) (by decide) rfl (fun ls hl => ?_)
  refine lv_goto (tgt := 25) hx hb dX1_init_48 (by decide) ?_
  refine lv_iload_n hx hb dX1_init_25 rfl (lv_at hl 0 rfl) ?_
  refine lv_bipush (v := 9) hx hb dX1_init_26 (by decide) ?_
  refine lv_icmp_ge (tgt := 51) hx hb dX1_init_28 (by decide) (fun c9 => absurd c9 (by decide)) (fun _ => ?_)
  refine lv_aload_n hx hb dX1_init_31 rfl (lv_at hl 1 rfl) ?_
  refine va_get (D := D) (ci := 1) (v := .ref q_1) (C := RX1) (T := TX1) (N := 3) hx hb hts inX1 hown hK hP 0 rfl rfl 0 (by decide) (hts _ tw_313) (fun _ h9 => h9) rfl dX1_init_32 ?_
  refine lv_iload_n hx hb dX1_init_35 rfl (lv_at hl 0 rfl) ?_
  refine va_new (ci := 8) (fs := [.null, .int 0, .null, .null, .null, .null, .null, .null, .null, .null, .null, .null, .int 0]) (C := RX8) (T := TX8) (N := 13) hx hb hts inX8 tyX8 tyX8_ok hown (hts _ tw_310) (hts _ tw_241) (hts _ tw_12) hK hP hD hS hA rfl (dfX8) (Nat.le_of_ble_eq_true rfl) (Nat.le_of_ble_eq_true rfl) dX1_init_36 (fun q_16 H hP hD hS => ?_)
  have hP : va_P D classes [(h, .inr (1, [.ref q_1, .int 0, .int 0])), (q_1, .inl (cy 4, 9, .inr (.inr (.inr (.inr g_15))))), (q_2, .inr (8, [.ref pt, .int 0, .ref q_5, .ref q_6, .ref q_7, .ref q_8, .ref q_9, .ref q_10, .ref q_11, .ref q_12, .ref q_13, .ref q_14, .int 0])), (q_5, .inl (cy 1, 36, .inl (fun _ => 0))), (q_6, .inl (cy 1, 6, .inl (fun _ => 0))), (q_7, .inl (cy 1, 6, .inl (fun _ => 0))), (q_8, .inl (cy 1, 6, .inl (fun _ => 0))), (q_9, .inl (cy 1, 6, .inl (fun _ => 0))), (q_10, .inl (cy 1, 8, .inl (fun _ => 0))), (q_12, .inl (cy 1, 8, .inl (fun _ => 0))), (q_13, .inl (cy 1, 8, .inl (fun _ => 0))), (q_14, .inl (cy 1, 6, .inl (fun _ => 0))), (q_11, .inl (cy 1, 8, .inl (fun _ => (-1)))), (q_16, .inr (8, [.null, .int 0, .null, .null, .null, .null, .null, .null, .null, .null, .null, .null, .int 0]))] H := hP
  have hD : va_D A [(h, .inr (1, [.ref q_1, .int 0, .int 0])), (q_1, .inl (cy 4, 9, .inr (.inr (.inr (.inr g_15))))), (q_2, .inr (8, [.ref pt, .int 0, .ref q_5, .ref q_6, .ref q_7, .ref q_8, .ref q_9, .ref q_10, .ref q_11, .ref q_12, .ref q_13, .ref q_14, .int 0])), (q_5, .inl (cy 1, 36, .inl (fun _ => 0))), (q_6, .inl (cy 1, 6, .inl (fun _ => 0))), (q_7, .inl (cy 1, 6, .inl (fun _ => 0))), (q_8, .inl (cy 1, 6, .inl (fun _ => 0))), (q_9, .inl (cy 1, 6, .inl (fun _ => 0))), (q_10, .inl (cy 1, 8, .inl (fun _ => 0))), (q_12, .inl (cy 1, 8, .inl (fun _ => 0))), (q_13, .inl (cy 1, 8, .inl (fun _ => 0))), (q_14, .inl (cy 1, 6, .inl (fun _ => 0))), (q_11, .inl (cy 1, 8, .inl (fun _ => (-1)))), (q_16, .inr (8, [.null, .int 0, .null, .null, .null, .null, .null, .null, .null, .null, .null, .null, .int 0]))] := hD
  refine W.widen (k := 13) (n := 133) (Nat.le_of_ble_eq_true rfl) (Nat.le_of_ble_eq_true rfl) ?_
  refine lv_dup hx hb dX1_init_39 rfl ?_
  refine lv_aload_n hx hb dX1_init_40 rfl (lv_at hl 2 rfl) ?_
  refine endv (wr := [(h, .inr (1, [.ref q_1, .int 0, .int 0])), (q_1, .inl (cy 4, 9, .inr (.inr (.inr (.inr g_15))))), (q_2, .inr (8, [.ref pt, .int 0, .ref q_5, .ref q_6, .ref q_7, .ref q_8, .ref q_9, .ref q_10, .ref q_11, .ref q_12, .ref q_13, .ref q_14, .int 0])), (q_5, .inl (cy 1, 36, .inl (fun _ => 0))), (q_6, .inl (cy 1, 6, .inl (fun _ => 0))), (q_7, .inl (cy 1, 6, .inl (fun _ => 0))), (q_8, .inl (cy 1, 6, .inl (fun _ => 0))), (q_9, .inl (cy 1, 6, .inl (fun _ => 0))), (q_10, .inl (cy 1, 8, .inl (fun _ => 0))), (q_12, .inl (cy 1, 8, .inl (fun _ => 0))), (q_13, .inl (cy 1, 8, .inl (fun _ => 0))), (q_14, .inl (cy 1, 6, .inl (fun _ => 0))), (q_11, .inl (cy 1, 8, .inl (fun _ => (-1))))]) (va_runI (As := [.ref pt]) (rest := [.ref q_16, .int 1, .ref q_1]) ⟨hx, hb, hml, hown, hts⟩ (c_World_init l D cy z H.size q_16 pt) (cwI 1 hts (gC tw_244) rfl rfl rfl (hts _ tw_12) (hts _ tw_312) (hts _ tw_243) rfl (by decide +kernel) ⟨Nat.le_of_ble_eq_true rfl, Nat.le_of_ble_eq_true rfl⟩) (preS hP hD hK hSD hS hA [13] rfl (by decide)) rfl rfl hl.1 rfl (lv_room (Nat.le_of_ble_eq_true rfl)) dX1_init_41 ⟨Nat.le_of_ble_eq_true rfl, Nat.le_of_ble_eq_true rfl⟩) hP hD hS hA [13] [0, 1, 2, 3, 4, 5, 6, 7, 8, 9, 10, 11, 12] rfl rfl (by decide) (by decide) (fun u_17 H locs hw_18 hP hD hS => ?_)
  obtain ⟨q_19, q_20, q_21, q_22, q_23, q_24, q_25, q_26, q_27, q_28⟩ := u_17
  have hP : va_P D classes [(h, .inr (1, [.ref q_1, .int 0, .int 0])), (q_1, .inl (cy 4, 9, .inr (.inr (.inr (.inr g_15))))), (q_2, .inr (8, [.ref pt, .int 0, .ref q_5, .ref q_6, .ref q_7, .ref q_8, .ref q_9, .ref q_10, .ref q_11, .ref q_12, .ref q_13, .ref q_14, .int 0])), (q_5, .inl (cy 1, 36, .inl (fun _ => 0))), (q_6, .inl (cy 1, 6, .inl (fun _ => 0))), (q_7, .inl (cy 1, 6, .inl (fun _ => 0))), (q_8, .inl (cy 1, 6, .inl (fun _ => 0))), (q_9, .inl (cy 1, 6, .inl (fun _ => 0))), (q_10, .inl (cy 1, 8, .inl (fun _ => 0))), (q_12, .inl (cy 1, 8, .inl (fun _ => 0))), (q_13, .inl (cy 1, 8, .inl (fun _ => 0))), (q_14, .inl (cy 1, 6, .inl (fun _ => 0))), (q_11, .inl (cy 1, 8, .inl (fun _ => (-1)))), (q_16, .inr (8, [.ref pt, .int 0, .ref q_19, .ref q_20, .ref q_21, .ref q_22, .ref q_23, .ref q_24, .ref q_25, .ref q_26, .ref q_27, .ref q_28, .int 0])), (q_19, .inl (cy 1, 36, .inl (fun _ => 0))), (q_20, .inl (cy 1, 6, .inl (fun _ => 0))), (q_21, .inl (cy 1, 6, .inl (fun _ => 0))), (q_22, .inl (cy 1, 6, .inl (fun _ => 0))), (q_23, .inl (cy 1, 6, .inl (fun _ => 0))), (q_24, .inl (cy 1, 8, .inl (fun _ => 0))), (q_26, .inl (cy 1, 8, .inl (fun _ => 0))), (q_27, .inl (cy 1, 8, .inl (fun _ => 0))), (q_28, .inl (cy 1, 6, .inl (fun _ => 0))), (q_25, .inl (cy 1, 8, .inl (fun _ => (-1))))] H := hP
  have hD : va_D A [(h, .inr (1, [.ref q_1, .int 0, .int 0])), (q_1, .inl (cy 4, 9, .inr (.inr (.inr (.inr g_15))))), (q_2, .inr (8, [.ref pt, .int 0, .ref q_5, .ref q_6, .ref q_7, .ref q_8, .ref q_9, .ref q_10, .ref q_11, .ref q_12, .ref q_13, .ref q_14, .int 0])), (q_5, .inl (cy 1, 36, .inl (fun _ => 0))), (q_6, .inl (cy 1, 6, .inl (fun _ => 0))), (q_7, .inl (cy 1, 6, .inl (fun _ => 0))), (q_8, .inl (cy 1, 6, .inl (fun _ => 0))), (q_9, .inl (cy 1, 6, .inl (fun _ => 0))), (q_10, .inl (cy 1, 8, .inl (fun _ => 0))), (q_12, .inl (cy 1, 8, .inl (fun _ => 0))), (q_13, .inl (cy 1, 8, .inl (fun _ => 0))), (q_14, .inl (cy 1, 6, .inl (fun _ => 0))), (q_11, .inl (cy 1, 8, .inl (fun _ => (-1)))), (q_16, .inr (8, [.ref pt, .int 0, .ref q_19, .ref q_20, .ref q_21, .ref q_22, .ref q_23, .ref q_24, .ref q_25, .ref q_26, .ref q_27, .ref q_28, .int 0])), (q_19, .inl (cy 1, 36, .inl (fun _ => 0))), (q_20, .inl (cy 1, 6, .inl (fun _ => 0))), (q_21, .inl (cy 1, 6, .inl (fun _ => 0))), (q_22, .inl (cy 1, 6, .inl (fun _ => 0))), (q_23, .inl (cy 1, 6, .inl (fun _ => 0))), (q_24, .inl (cy 1, 8, .inl (fun _ => 0))), (q_26, .inl (cy 1, 8, .inl (fun _ => 0))), (q_27, .inl (cy 1, 8, .inl (fun _ => 0))), (q_28, .inl (cy 1, 6, .inl (fun _ => 0))), (q_25, .inl (cy 1, 8, .inl (fun _ => (-1))))] := hD
  refine W.widen (k := 23) (n := 231) (Nat.le_of_ble_eq_true rfl) (Nat.le_of_ble_eq_true rfl) ?_
  refine va_astq (r := (RX8, TX8, 13)) hx hb hK hP hD hS 1 4 13 8 rfl rfl rfl rfl (vp_in_nI (n := 1) (N := 9) (by decide) (by decide)) dX1_init_44 (fun H locs hP hD hS => ?_)
  obtain ⟨g_29, eg_29⟩ : ∃ g, g = va_up g_15 (Int32.toNatClampNeg 1) (some q_16) := ⟨_, rfl⟩
  have hP : va_P D classes [(h, .inr (1, [.ref q_1, .int 0, .int 0])), (q_1, .inl (cy 4, 9, .inr (.inr (.inr (.inr g_29))))), (q_2, .inr (8, [.ref pt, .int 0, .ref q_5, .ref q_6, .ref q_7, .ref q_8, .ref q_9, .ref q_10, .ref q_11, .ref q_12, .ref q_13, .ref q_14, .int 0])), (q_5, .inl (cy 1, 36, .inl (fun _ => 0))), (q_6, .inl (cy 1, 6, .inl (fun _ => 0))), (q_7, .inl (cy 1, 6, .inl (fun _ => 0))), (q_8, .inl (cy 1, 6, .inl (fun _ => 0))), (q_9, .inl (cy 1, 6, .inl (fun _ => 0))), (q_10, .inl (cy 1, 8, .inl (fun _ => 0))), (q_12, .inl (cy 1, 8, .inl (fun _ => 0))), (q_13, .inl (cy 1, 8, .inl (fun _ => 0))), (q_14, .inl (cy 1, 6, .inl (fun _ => 0))), (q_11, .inl (cy 1, 8, .inl (fun _ => (-1)))), (q_16, .inr (8, [.ref pt, .int 0, .ref q_19, .ref q_20, .ref q_21, .ref q_22, .ref q_23, .ref q_24, .ref q_25, .ref q_26, .ref q_27, .ref q_28, .int 0])), (q_19, .inl (cy 1, 36, .inl (fun _ => 0))), (q_20, .inl (cy 1, 6, .inl (fun _ => 0))), (q_21, .inl (cy 1, 6, .inl (fun _ => 0))), (q_22, .inl (cy 1, 6, .inl (fun _ => 0))), (q_23, .inl (cy 1, 6, .inl (fun _ => 0))), (q_24, .inl (cy 1, 8, .inl (fun _ => 0))), (q_26, .inl (cy 1, 8, .inl (fun _ => 0))), (q_27, .inl (cy 1, 8, .inl (fun _ => 0))), (q_28, .inl (cy 1, 6, .inl (fun _ => 0))), (q_25, .inl (cy 1, 8, .inl (fun _ => (-1))))] H := by rw [eg_29]; exact hP
  have hD : va_D A [(h, .inr (1, [.ref q_1, .int 0, .int 0])), (q_1, .inl (cy 4, 9, .inr (.inr (.inr (.inr g_29))))), (q_2, .inr (8, [.ref pt, .int 0, .ref q_5, .ref q_6, .ref q_7, .ref q_8, .ref q_9, .ref q_10, .ref q_11, .ref q_12, .ref q_13, .ref q_14, .int 0])), (q_5, .inl (cy 1, 36, .inl (fun _ => 0))), (q_6, .inl (cy 1, 6, .inl (fun _ => 0))), (q_7, .inl (cy 1, 6, .inl (fun _ => 0))), (q_8, .inl (cy 1, 6, .inl (fun _ => 0))), (q_9, .inl (cy 1, 6, .inl (fun _ => 0))), (q_10, .inl (cy 1, 8, .inl (fun _ => 0))), (q_12, .inl (cy 1, 8, .inl (fun _ => 0))), (q_13, .inl (cy 1, 8, .inl (fun _ => 0))), (q_14, .inl (cy 1, 6, .inl (fun _ => 0))), (q_11, .inl (cy 1, 8, .inl (fun _ => (-1)))), (q_16, .inr (8, [.ref pt, .int 0, .ref q_19, .ref q_20, .ref q_21, .ref q_22, .ref q_23, .ref q_24, .ref q_25, .ref q_26, .ref q_27, .ref q_28, .int 0])), (q_19, .inl (cy 1, 36, .inl (fun _ => 0))), (q_20, .inl (cy 1, 6, .inl (fun _ => 0))), (q_21, .inl (cy 1, 6, .inl (fun _ => 0))), (q_22, .inl (cy 1, 6, .inl (fun _ => 0))), (q_23, .inl (cy 1, 6, .inl (fun _ => 0))), (q_24, .inl (cy 1, 8, .inl (fun _ => 0))), (q_26, .inl (cy 1, 8, .inl (fun _ => 0))), (q_27, .inl (cy 1, 8, .inl (fun _ => 0))), (q_28, .inl (cy 1, 6, .inl (fun _ => 0))), (q_25, .inl (cy 1, 8, .inl (fun _ => (-1))))] := by rw [eg_29]; exact hD
  have hP : va_P D classes [(h, .inr (1, [.ref q_1, .int 0, .int 0])), (q_1, .inl (cy 4, 9, .inr (.inr (.inr (.inr g_29))))), (q_2, .inr (8, [.ref pt, .int 0, .ref q_5, .ref q_6, .ref q_7, .ref q_8, .ref q_9, .ref q_10, .ref q_11, .ref q_12, .ref q_13, .ref q_14, .int 0])), (q_5, .inl (cy 1, 36, .inl (fun _ => 0))), (q_6, .inl (cy 1, 6, .inl (fun _ => 0))), (q_7, .inl (cy 1, 6, .inl (fun _ => 0))), (q_8, .inl (cy 1, 6, .inl (fun _ => 0))), (q_9, .inl (cy 1, 6, .inl (fun _ => 0))), (q_10, .inl (cy 1, 8, .inl (fun _ => 0))), (q_12, .inl (cy 1, 8, .inl (fun _ => 0))), (q_13, .inl (cy 1, 8, .inl (fun _ => 0))), (q_14, .inl (cy 1, 6, .inl (fun _ => 0))), (q_11, .inl (cy 1, 8, .inl (fun _ => (-1))))] H := subP hP [0, 1, 2, 3, 4, 5, 6, 7, 8, 9, 10, 11, 12] rfl
  have hD : va_D A [(h, .inr (1, [.ref q_1, .int 0, .int 0])), (q_1, .inl (cy 4, 9, .inr (.inr (.inr (.inr g_29))))), (q_2, .inr (8, [.ref pt, .int 0, .ref q_5, .ref q_6, .ref q_7, .ref q_8, .ref q_9, .ref q_10, .ref q_11, .ref q_12, .ref q_13, .ref q_14, .int 0])), (q_5, .inl (cy 1, 36, .inl (fun _ => 0))), (q_6, .inl (cy 1, 6, .inl (fun _ => 0))), (q_7, .inl (cy 1, 6, .inl (fun _ => 0))), (q_8, .inl (cy 1, 6, .inl (fun _ => 0))), (q_9, .inl (cy 1, 6, .inl (fun _ => 0))), (q_10, .inl (cy 1, 8, .inl (fun _ => 0))), (q_12, .inl (cy 1, 8, .inl (fun _ => 0))), (q_13, .inl (cy 1, 8, .inl (fun _ => 0))), (q_14, .inl (cy 1, 6, .inl (fun _ => 0))), (q_11, .inl (cy 1, 8, .inl (fun _ => (-1))))] := hD.sub [0, 1, 2, 3, 4, 5, 6, 7, 8, 9, 10, 11, 12] (by decide) rfl
  refine lv_iinc (v := 2) (lv' := [(2, .int 2), (0, .ref h), (1, .ref pt)]) hx hb dX1_init_45 hl (k := 0) rfl (by decide) (by decide) rfl (fun ls hl => ?_)
  refine lv_goto (tgt := 25) hx hb dX1_init_48 (by decide) ?_
  refine lv_iload_n hx hb dX1_init_25 rfl (lv_at hl 0 rfl) ?_
  refine lv_bipush (v := 9) hx hb dX1_init_26 (by decide) ?_
  refine lv_icmp_ge (tgt := 51) hx hb dX1_init_28 (by decide) (fun c9 => absurd c9 (by decide)) (fun _ => ?_)
  refine lv_aload_n hx hb dX1_init_31 rfl (lv_at hl 1 rfl) ?_
  refine va_get (D := D) (ci := 1) (v := .ref q_1) (C := RX1) (T := TX1) (N := 3) hx hb hts inX1 hown hK hP 0 rfl rfl 0 (by decide) (hts _ tw_313) (fun _ h9 => h9) rfl dX1_init_32 ?_
  refine lv_iload_n hx hb dX1_init_35 rfl (lv_at hl 0 rfl) ?_
  refine va_new (ci := 8) (fs := [.null, .int 0, .null, .null, .null, .null, .null, .null, .null, .null, .null, .null, .int 0]) (C := RX8) (T := TX8) (N := 13) hx hb hts inX8 tyX8 tyX8_ok hown (hts _ tw_310) (hts _ tw_241) (hts _ tw_12) hK hP hD hS hA rfl (dfX8) (Nat.le_of_ble_eq_true rfl) (Nat.le_of_ble_eq_true rfl) dX1_init_36 (fun q_30 H hP hD hS => ?_)
  have hP : va_P D classes [(h, .inr (1, [.ref q_1, .int 0, .int 0])), (q_1, .inl (cy 4, 9, .inr (.inr (.inr (.inr g_29))))), (q_2, .inr (8, [.ref pt, .int 0, .ref q_5, .ref q_6, .ref q_7, .ref q_8, .ref q_9, .ref q_10, .ref q_11, .ref q_12, .ref q_13, .ref q_14, .int 0])), (q_5, .inl (cy 1, 36, .inl (fun _ => 0))), (q_6, .inl (cy 1, 6, .inl (fun _ => 0))), (q_7, .inl (cy 1, 6, .inl (fun _ => 0))), (q_8, .inl (cy 1, 6, .inl (fun _ => 0))), (q_9, .inl (cy 1, 6, .inl (fun _ => 0))), (q_10, .inl (cy 1, 8, .inl (fun _ => 0))), (q_12, .inl (cy 1, 8, .inl (fun _ => 0))), (q_13, .inl (cy 1, 8, .inl (fun _ => 0))), (q_14, .inl (cy 1, 6, .inl (fun _ => 0))), (q_11, .inl (cy 1, 8, .inl (fun _ => (-1)))), (q_30, .inr (8, [.null, .int 0, .null, .null, .null, .null, .null, .null, .null, .null, .null, .null, .int 0]))] H := hP
  have hD : va_D A [(h, .inr (1, [.ref q_1, .int 0, .int 0])), (q_1, .inl (cy 4, 9, .inr (.inr (.inr (.inr g_29))))), (q_2, .inr (8, [.ref pt, .int 0, .ref q_5, .ref q_6, .ref q_7, .ref q_8, .ref q_9, .ref q_10, .ref q_11, .ref q_12, .ref q_13, .ref q_14, .int 0])), (q_5, .inl (cy 1, 36, .inl (fun _ => 0))), (q_6, .inl (cy 1, 6, .inl (fun _ => 0))), (q_7, .inl (cy 1, 6, .inl (fun _ => 0))), (q_8, .inl (cy 1, 6, .inl (fun _ => 0))), (q_9, .inl (cy 1, 6, .inl (fun _ => 0))), (q_10, .inl (cy 1, 8, .inl (fun _ => 0))), (q_12, .inl (cy 1, 8, .inl (fun _ => 0))), (q_13, .inl (cy 1, 8, .inl (fun _ => 0))), (q_14, .inl (cy 1, 6, .inl (fun _ => 0))), (q_11, .inl (cy 1, 8, .inl (fun _ => (-1)))), (q_30, .inr (8, [.null, .int 0, .null, .null, .null, .null, .null, .null, .null, .null, .null, .null, .int 0]))] := hD
  refine W.widen (k := 24) (n := 244) (Nat.le_of_ble_eq_true rfl) (Nat.le_of_ble_eq_true rfl) ?_
  refine lv_dup hx hb dX1_init_39 rfl ?_
  refine lv_aload_n hx hb dX1_init_40 rfl (lv_at hl 2 rfl) ?_
  refine endv (wr := [(h, .inr (1, [.ref q_1, .int 0, .int 0])), (q_1, .inl (cy 4, 9, .inr (.inr (.inr (.inr g_29))))), (q_2, .inr (8, [.ref pt, .int 0, .ref q_5, .ref q_6, .ref q_7, .ref q_8, .ref q_9, .ref q_10, .ref q_11, .ref q_12, .ref q_13, .ref q_14, .int 0])), (q_5, .inl (cy 1, 36, .inl (fun _ => 0))), (q_6, .inl (cy 1, 6, .inl (fun _ => 0))), (q_7, .inl (cy 1, 6, .inl (fun _ => 0))), (q_8, .inl (cy 1, 6, .inl (fun _ => 0))), (q_9, .inl (cy 1, 6, .inl (fun _ => 0))), (q_10, .inl (cy 1, 8, .inl (fun _ => 0))), (q_12, .inl (cy 1, 8, .inl (fun _ => 0))), (q_13, .inl (cy 1, 8, .inl (fun _ => 0))), (q_14, .inl (cy 1, 6, .inl (fun _ => 0))), (q_11, .inl (cy 1, 8, .inl (fun _ => (-1))))]) (va_runI (As := [.ref pt]) (rest := [.ref q_30, .int 2, .ref q_1]) ⟨hx, hb, hml, hown, hts⟩ (c_World_init l D cy z H.size q_30 pt) (cwI 1 hts (gC tw_244) rfl rfl rfl (hts _ tw_12) (hts _ tw_312) (hts _ tw_243) rfl (by decide +kernel) ⟨Nat.le_of_ble_eq_true rfl, Nat.le_of_ble_eq_true rfl⟩) (preS hP hD hK hSD hS hA [13] rfl (by decide)) rfl rfl hl.1 rfl (lv_room (Nat.le_of_ble_eq_true rfl)) dX1_init_41 ⟨Nat.le_of_ble_eq_true rfl, Nat.le_of_ble_eq_true rfl⟩) hP hD hS hA [13] [0, 1, 2, 3, 4, 5, 6, 7, 8, 9, 10, 11, 12] rfl rfl (by decide) (by decide) (fun u_31 H locs hw_32 hP hD hS => ?_)
  obtain ⟨q_33, q_34, q_35, q_36, q_37, q_38, q_39, q_40, q_41, q_42⟩ := u_31
  have hP : va_P D classes [(h, .inr (1, [.ref q_1, .int 0, .int 0])), (q_1, .inl (cy 4, 9, .inr (.inr (.inr (.inr g_29))))), (q_2, .inr (8, [.ref pt, .int 0, .ref q_5, .ref q_6, .ref q_7, .ref q_8, .ref q_9, .ref q_10, .ref q_11, .ref q_12, .ref q_13, .ref q_14, .int 0])), (q_5, .inl (cy 1, 36, .inl (fun _ => 0))), (q_6, .inl (cy 1, 6, .inl (fun _ => 0))), (q_7, .inl (cy 1, 6, .inl (fun _ => 0))), (q_8, .inl (cy 1, 6, .inl (fun _ => 0))), (q_9, .inl (cy 1, 6, .inl (fun _ => 0))), (q_10, .inl (cy 1, 8, .inl (fun _ => 0))), (q_12, .inl (cy 1, 8, .inl (fun _ => 0))), (q_13, .inl (cy 1, 8, .inl (fun _ => 0))), (q_14, .inl (cy 1, 6, .inl (fun _ => 0))), (q_11, .inl (cy 1, 8, .inl (fun _ => (-1)))), (q_30, .inr (8, [.ref pt, .int 0, .ref q_33, .ref q_34, .ref q_35, .ref q_36, .ref q_37, .ref q_38, .ref q_39, .ref q_40, .ref q_41, .ref q_42, .int 0])), (q_33, .inl (cy 1, 36, .inl (fun _ => 0))), (q_34, .inl (cy 1, 6, .inl (fun _ => 0))), (q_35, .inl (cy 1, 6, .inl (fun _ => 0))), (q_36, .inl (cy 1, 6, .inl (fun _ => 0))), (q_37, .inl (cy 1, 6, .inl (fun _ => 0))), (q_38, .inl (cy 1, 8, .inl (fun _ => 0))), (q_40, .inl (cy 1, 8, .inl (fun _ => 0))), (q_41, .inl (cy 1, 8, .inl (fun _ => 0))), (q_42, .inl (cy 1, 6, .inl (fun _ => 0))), (q_39, .inl (cy 1, 8, .inl (fun _ => (-1))))] H := hP
  have hD : va_D A [(h, .inr (1, [.ref q_1, .int 0, .int 0])), (q_1, .inl (cy 4, 9, .inr (.inr (.inr (.inr g_29))))), (q_2, .inr (8, [.ref pt, .int 0, .ref q_5, .ref q_6, .ref q_7, .ref q_8, .ref q_9, .ref q_10, .ref q_11, .ref q_12, .ref q_13, .ref q_14, .int 0])), (q_5, .inl (cy 1, 36, .inl (fun _ => 0))), (q_6, .inl (cy 1, 6, .inl (fun _ => 0))), (q_7, .inl (cy 1, 6, .inl (fun _ => 0))), (q_8, .inl (cy 1, 6, .inl (fun _ => 0))), (q_9, .inl (cy 1, 6, .inl (fun _ => 0))), (q_10, .inl (cy 1, 8, .inl (fun _ => 0))), (q_12, .inl (cy 1, 8, .inl (fun _ => 0))), (q_13, .inl (cy 1, 8, .inl (fun _ => 0))), (q_14, .inl (cy 1, 6, .inl (fun _ => 0))), (q_11, .inl (cy 1, 8, .inl (fun _ => (-1)))), (q_30, .inr (8, [.ref pt, .int 0, .ref q_33, .ref q_34, .ref q_35, .ref q_36, .ref q_37, .ref q_38, .ref q_39, .ref q_40, .ref q_41, .ref q_42, .int 0])), (q_33, .inl (cy 1, 36, .inl (fun _ => 0))), (q_34, .inl (cy 1, 6, .inl (fun _ => 0))), (q_35, .inl (cy 1, 6, .inl (fun _ => 0))), (q_36, .inl (cy 1, 6, .inl (fun _ => 0))), (q_37, .inl (cy 1, 6, .inl (fun _ => 0))), (q_38, .inl (cy 1, 8, .inl (fun _ => 0))), (q_40, .inl (cy 1, 8, .inl (fun _ => 0))), (q_41, .inl (cy 1, 8, .inl (fun _ => 0))), (q_42, .inl (cy 1, 6, .inl (fun _ => 0))), (q_39, .inl (cy 1, 8, .inl (fun _ => (-1))))] := hD
  refine W.widen (k := 34) (n := 342) (Nat.le_of_ble_eq_true rfl) (Nat.le_of_ble_eq_true rfl) ?_
  refine va_astq (r := (RX8, TX8, 13)) hx hb hK hP hD hS 1 4 13 8 rfl rfl rfl rfl (vp_in_nI (n := 2) (N := 9) (by decide) (by decide)) dX1_init_44 (fun H locs hP hD hS => ?_)
  obtain ⟨g_43, eg_43⟩ : ∃ g, g = va_up g_29 (Int32.toNatClampNeg 2) (some q_30) := ⟨_, rfl⟩
  have hP : va_P D classes [(h, .inr (1, [.ref q_1, .int 0, .int 0])), (q_1, .inl (cy 4, 9, .inr (.inr (.inr (.inr g_43))))), (q_2, .inr (8, [.ref pt, .int 0, .ref q_5, .ref q_6, .ref q_7, .ref q_8, .ref q_9, .ref q_10, .ref q_11, .ref q_12, .ref q_13, .ref q_14, .int 0])), (q_5, .inl (cy 1, 36, .inl (fun _ => 0))), (q_6, .inl (cy 1, 6, .inl (fun _ => 0))), (q_7, .inl (cy 1, 6, .inl (fun _ => 0))), (q_8, .inl (cy 1, 6, .inl (fun _ => 0))), (q_9, .inl (cy 1, 6, .inl (fun _ => 0))), (q_10, .inl (cy 1, 8, .inl (fun _ => 0))), (q_12, .inl (cy 1, 8, .inl (fun _ => 0))), (q_13, .inl (cy 1, 8, .inl (fun _ => 0))), (q_14, .inl (cy 1, 6, .inl (fun _ => 0))), (q_11, .inl (cy 1, 8, .inl (fun _ => (-1)))), (q_30, .inr (8, [.ref pt, .int 0, .ref q_33, .ref q_34, .ref q_35, .ref q_36, .ref q_37, .ref q_38, .ref q_39, .ref q_40, .ref q_41, .ref q_42, .int 0])), (q_33, .inl (cy 1, 36, .inl (fun _ => 0))), (q_34, .inl (cy 1, 6, .inl (fun _ => 0))), (q_35, .inl (cy 1, 6, .inl (fun _ => 0))), (q_36, .inl (cy 1, 6, .inl (fun _ => 0))), (q_37, .inl (cy 1, 6, .inl (fun _ => 0))), (q_38, .inl (cy 1, 8, .inl (fun _ => 0))), (q_40, .inl (cy 1, 8, .inl (fun _ => 0))), (q_41, .inl (cy 1, 8, .inl (fun _ => 0))), (q_42, .inl (cy 1, 6, .inl (fun _ => 0))), (q_39, .inl (cy 1, 8, .inl (fun _ => (-1))))] H := by rw [eg_43]; exact hP
  have hD : va_D A [(h, .inr (1, [.ref q_1, .int 0, .int 0])), (q_1, .inl (cy 4, 9, .inr (.inr (.inr (.inr g_43))))), (q_2, .inr (8, [.ref pt, .int 0, .ref q_5, .ref q_6, .ref q_7, .ref q_8, .ref q_9, .ref q_10, .ref q_11, .ref q_12, .ref q_13, .ref q_14, .int 0])), (q_5, .inl (cy 1, 36, .inl (fun _ => 0))), (q_6, .inl (cy 1, 6, .inl (fun _ => 0))), (q_7, .inl (cy 1, 6, .inl (fun _ => 0))), (q_8, .inl (cy 1, 6, .inl (fun _ => 0))), (q_9, .inl (cy 1, 6, .inl (fun _ => 0))), (q_10, .inl (cy 1, 8, .inl (fun _ => 0))), (q_12, .inl (cy 1, 8, .inl (fun _ => 0))), (q_13, .inl (cy 1, 8, .inl (fun _ => 0))), (q_14, .inl (cy 1, 6, .inl (fun _ => 0))), (q_11, .inl (cy 1, 8, .inl (fun _ => (-1)))), (q_30, .inr (8, [.ref pt, .int 0, .ref q_33, .ref q_34, .ref q_35, .ref q_36, .ref q_37, .ref q_38, .ref q_39, .ref q_40, .ref q_41, .ref q_42, .int 0])), (q_33, .inl (cy 1, 36, .inl (fun _ => 0))), (q_34, .inl (cy 1, 6, .inl (fun _ => 0))), (q_35, .inl (cy 1, 6, .inl (fun _ => 0))), (q_36, .inl (cy 1, 6, .inl (fun _ => 0))), (q_37, .inl (cy 1, 6, .inl (fun _ => 0))), (q_38, .inl (cy 1, 8, .inl (fun _ => 0))), (q_40, .inl (cy 1, 8, .inl (fun _ => 0))), (q_41, .inl (cy 1, 8, .inl (fun _ => 0))), (q_42, .inl (cy 1, 6, .inl (fun _ => 0))), (q_39, .inl (cy 1, 8, .inl (fun _ => (-1))))] := by rw [eg_43]; exact hD
  have hP : va_P D classes [(h, .inr (1, [.ref q_1, .int 0, .int 0])), (q_1, .inl (cy 4, 9, .inr (.inr (.inr (.inr g_43))))), (q_2, .inr (8, [.ref pt, .int 0, .ref q_5, .ref q_6, .ref q_7, .ref q_8, .ref q_9, .ref q_10, .ref q_11, .ref q_12, .ref q_13, .ref q_14, .int 0])), (q_5, .inl (cy 1, 36, .inl (fun _ => 0))), (q_6, .inl (cy 1, 6, .inl (fun _ => 0))), (q_7, .inl (cy 1, 6, .inl (fun _ => 0))), (q_8, .inl (cy 1, 6, .inl (fun _ => 0))), (q_9, .inl (cy 1, 6, .inl (fun _ => 0))), (q_10, .inl (cy 1, 8, .inl (fun _ => 0))), (q_12, .inl (cy 1, 8, .inl (fun _ => 0))), (q_13, .inl (cy 1, 8, .inl (fun _ => 0))), (q_14, .inl (cy 1, 6, .inl (fun _ => 0))), (q_11, .inl (cy 1, 8, .inl (fun _ => (-1))))] H := subP hP [0, 1, 2, 3, 4, 5, 6, 7, 8, 9, 10, 11, 12] rfl
  have hD : va_D A [(h, .inr (1, [.ref q_1, .int 0, .int 0])), (q_1, .inl (cy 4, 9, .inr (.inr (.inr (.inr g_43))))), (q_2, .inr (8, [.ref pt, .int 0, .ref q_5, .ref q_6, .ref q_7, .ref q_8, .ref q_9, .ref q_10, .ref q_11, .ref q_12, .ref q_13, .ref q_14, .int 0])), (q_5, .inl (cy 1, 36, .inl (fun _ => 0))), (q_6, .inl (cy 1, 6, .inl (fun _ => 0))), (q_7, .inl (cy 1, 6, .inl (fun _ => 0))), (q_8, .inl (cy 1, 6, .inl (fun _ => 0))), (q_9, .inl (cy 1, 6, .inl (fun _ => 0))), (q_10, .inl (cy 1, 8, .inl (fun _ => 0))), (q_12, .inl (cy 1, 8, .inl (fun _ => 0))), (q_13, .inl (cy 1, 8, .inl (fun _ => 0))), (q_14, .inl (cy 1, 6, .inl (fun _ => 0))), (q_11, .inl (cy 1, 8, .inl (fun _ => (-1))))] := hD.sub [0, 1, 2, 3, 4, 5, 6, 7, 8, 9, 10, 11, 12] (by decide) rfl
  refine lv_iinc (v := 3) (lv' := [(2, .int 3), (0, .ref h), (1, .ref pt)]) hx hb dX1_init_45 hl (k := 0) rfl (by decide) (by decide) rfl (fun ls hl => ?_)
  refine lv_goto (tgt := 25) hx hb dX1_init_48 (by decide) ?_
  refine lv_iload_n hx hb dX1_init_25 rfl (lv_at hl 0 rfl) ?_
  refine lv_bipush (v := 9) hx hb dX1_init_26 (by decide) ?_
  refine lv_icmp_ge (tgt := 51) hx hb dX1_init_28 (by decide) (fun c9 => absurd c9 (by decide)) (fun _ => ?_)
  refine lv_aload_n hx hb dX1_init_31 rfl (lv_at hl 1 rfl) ?_
  refine va_get (D := D) (ci := 1) (v := .ref q_1) (C := RX1) (T := TX1) (N := 3) hx hb hts inX1 hown hK hP 0 rfl rfl 0 (by decide) (hts _ tw_313) (fun _ h9 => h9) rfl dX1_init_32 ?_
  refine lv_iload_n hx hb dX1_init_35 rfl (lv_at hl 0 rfl) ?_
  refine va_new (ci := 8) (fs := [.null, .int 0, .null, .null, .null, .null, .null, .null, .null, .null, .null, .null, .int 0]) (C := RX8) (T := TX8) (N := 13) hx hb hts inX8 tyX8 tyX8_ok hown (hts _ tw_310) (hts _ tw_241) (hts _ tw_12) hK hP hD hS hA rfl (dfX8) (Nat.le_of_ble_eq_true rfl) (Nat.le_of_ble_eq_true rfl) dX1_init_36 (fun q_44 H hP hD hS => ?_)
  have hP : va_P D classes [(h, .inr (1, [.ref q_1, .int 0, .int 0])), (q_1, .inl (cy 4, 9, .inr (.inr (.inr (.inr g_43))))), (q_2, .inr (8, [.ref pt, .int 0, .ref q_5, .ref q_6, .ref q_7, .ref q_8, .ref q_9, .ref q_10, .ref q_11, .ref q_12, .ref q_13, .ref q_14, .int 0])), (q_5, .inl (cy 1, 36, .inl (fun _ => 0))), (q_6, .inl (cy 1, 6, .inl (fun _ => 0))), (q_7, .inl (cy 1, 6, .inl (fun _ => 0))), (q_8, .inl (cy 1, 6, .inl (fun _ => 0))), (q_9, .inl (cy 1, 6, .inl (fun _ => 0))), (q_10, .inl (cy 1, 8, .inl (fun _ => 0))), (q_12, .inl (cy 1, 8, .inl (fun _ => 0))), (q_13, .inl (cy 1, 8, .inl (fun _ => 0))), (q_14, .inl (cy 1, 6, .inl (fun _ => 0))), (q_11, .inl (cy 1, 8, .inl (fun _ => (-1)))), (q_44, .inr (8, [.null, .int 0, .null, .null, .null, .null, .null, .null, .null, .null, .null, .null, .int 0]))] H := hP
  have hD : va_D A [(h, .inr (1, [.ref q_1, .int 0, .int 0])), (q_1, .inl (cy 4, 9, .inr (.inr (.inr (.inr g_43))))), (q_2, .inr (8, [.ref pt, .int 0, .ref q_5, .ref q_6, .ref q_7, .ref q_8, .ref q_9, .ref q_10, .ref q_11, .ref q_12, .ref q_13, .ref q_14, .int 0])), (q_5, .inl (cy 1, 36, .inl (fun _ => 0))), (q_6, .inl (cy 1, 6, .inl (fun _ => 0))), (q_7, .inl (cy 1, 6, .inl (fun _ => 0))), (q_8, .inl (cy 1, 6, .inl (fun _ => 0))), (q_9, .inl (cy 1, 6, .inl (fun _ => 0))), (q_10, .inl (cy 1, 8, .inl (fun _ => 0))), (q_12, .inl (cy 1, 8, .inl (fun _ => 0))), (q_13, .inl (cy 1, 8, .inl (fun _ => 0))), (q_14, .inl (cy 1, 6, .inl (fun _ => 0))), (q_11, .inl (cy 1, 8, .inl (fun _ => (-1)))), (q_44, .inr (8, [.null, .int 0, .null, .null, .null, .null, .null, .null, .null, .null, .null, .null, .int 0]))] := hD
  refine W.widen (k := 35) (n := 355) (Nat.le_of_ble_eq_true rfl) (Nat.le_of_ble_eq_true rfl) ?_
  refine lv_dup hx hb dX1_init_39 rfl ?_
  refine lv_aload_n hx hb dX1_init_40 rfl (lv_at hl 2 rfl) ?_
  refine endv (wr := [(h, .inr (1, [.ref q_1, .int 0, .int 0])), (q_1, .inl (cy 4, 9, .inr (.inr (.inr (.inr g_43))))), (q_2, .inr (8, [.ref pt, .int 0, .ref q_5, .ref q_6, .ref q_7, .ref q_8, .ref q_9, .ref q_10, .ref q_11, .ref q_12, .ref q_13, .ref q_14, .int 0])), (q_5, .inl (cy 1, 36, .inl (fun _ => 0))), (q_6, .inl (cy 1, 6, .inl (fun _ => 0))), (q_7, .inl (cy 1, 6, .inl (fun _ => 0))), (q_8, .inl (cy 1, 6, .inl (fun _ => 0))), (q_9, .inl (cy 1, 6, .inl (fun _ => 0))), (q_10, .inl (cy 1, 8, .inl (fun _ => 0))), (q_12, .inl (cy 1, 8, .inl (fun _ => 0))), (q_13, .inl (cy 1, 8, .inl (fun _ => 0))), (q_14, .inl (cy 1, 6, .inl (fun _ => 0))), (q_11, .inl (cy 1, 8, .inl (fun _ => (-1))))]) (va_runI (As := [.ref pt]) (rest := [.ref q_44, .int 3, .ref q_1]) ⟨hx, hb, hml, hown, hts⟩ (c_World_init l D cy z H.size q_44 pt) (cwI 1 hts (gC tw_244) rfl rfl rfl (hts _ tw_12) (hts _ tw_312) (hts _ tw_243) rfl (by decide +kernel) ⟨Nat.le_of_ble_eq_true rfl, Nat.le_of_ble_eq_true rfl⟩) (preS hP hD hK hSD hS hA [13] rfl (by decide)) rfl rfl hl.1 rfl (lv_room (Nat.le_of_ble_eq_true rfl)) dX1_init_41 ⟨Nat.le_of_ble_eq_true rfl, Nat.le_of_ble_eq_true rfl⟩) hP hD hS hA [13] [0, 1, 2, 3, 4, 5, 6, 7, 8, 9, 10, 11, 12] rfl rfl (by decide) (by decide) (fun u_45 H locs hw_46 hP hD hS => ?_)
  obtain ⟨q_47, q_48, q_49, q_50, q_51, q_52, q_53, q_54, q_55, q_56⟩ := u_45
  have hP : va_P D classes [(h, .inr (1, [.ref q_1, .int 0, .int 0])), (q_1, .inl (cy 4, 9, .inr (.inr (.inr (.inr g_43))))), (q_2, .inr (8, [.ref pt, .int 0, .ref q_5, .ref q_6, .ref q_7, .ref q_8, .ref q_9, .ref q_10, .ref q_11, .ref q_12, .ref q_13, .ref q_14, .int 0])), (q_5, .inl (cy 1, 36, .inl (fun _ => 0))), (q_6, .inl (cy 1, 6, .inl (fun _ => 0))), (q_7, .inl (cy 1, 6, .inl (fun _ => 0))), (q_8, .inl (cy 1, 6, .inl (fun _ => 0))), (q_9, .inl (cy 1, 6, .inl (fun _ => 0))), (q_10, .inl (cy 1, 8, .inl (fun _ => 0))), (q_12, .inl (cy 1, 8, .inl (fun _ => 0))), (q_13, .inl (cy 1, 8, .inl (fun _ => 0))), (q_14, .inl (cy 1, 6, .inl (fun _ => 0))), (q_11, .inl (cy 1, 8, .inl (fun _ => (-1)))), (q_44, .inr (8, [.ref pt, .int 0, .ref q_47, .ref q_48, .ref q_49, .ref q_50, .ref q_51, .ref q_52, .ref q_53, .ref q_54, .ref q_55, .ref q_56, .int 0])), (q_47, .inl (cy 1, 36, .inl (fun _ => 0))), (q_48, .inl (cy 1, 6, .inl (fun _ => 0))), (q_49, .inl (cy 1, 6, .inl (fun _ => 0))), (q_50, .inl (cy 1, 6, .inl (fun _ => 0))), (q_51, .inl (cy 1, 6, .inl (fun _ => 0))), (q_52, .inl (cy 1, 8, .inl (fun _ => 0))), (q_54, .inl (cy 1, 8, .inl (fun _ => 0))), (q_55, .inl (cy 1, 8, .inl (fun _ => 0))), (q_56, .inl (cy 1, 6, .inl (fun _ => 0))), (q_53, .inl (cy 1, 8, .inl (fun _ => (-1))))] H := hP
  have hD : va_D A [(h, .inr (1, [.ref q_1, .int 0, .int 0])), (q_1, .inl (cy 4, 9, .inr (.inr (.inr (.inr g_43))))), (q_2, .inr (8, [.ref pt, .int 0, .ref q_5, .ref q_6, .ref q_7, .ref q_8, .ref q_9, .ref q_10, .ref q_11, .ref q_12, .ref q_13, .ref q_14, .int 0])), (q_5, .inl (cy 1, 36, .inl (fun _ => 0))), (q_6, .inl (cy 1, 6, .inl (fun _ => 0))), (q_7, .inl (cy 1, 6, .inl (fun _ => 0))), (q_8, .inl (cy 1, 6, .inl (fun _ => 0))), (q_9, .inl (cy 1, 6, .inl (fun _ => 0))), (q_10, .inl (cy 1, 8, .inl (fun _ => 0))), (q_12, .inl (cy 1, 8, .inl (fun _ => 0))), (q_13, .inl (cy 1, 8, .inl (fun _ => 0))), (q_14, .inl (cy 1, 6, .inl (fun _ => 0))), (q_11, .inl (cy 1, 8, .inl (fun _ => (-1)))), (q_44, .inr (8, [.ref pt, .int 0, .ref q_47, .ref q_48, .ref q_49, .ref q_50, .ref q_51, .ref q_52, .ref q_53, .ref q_54, .ref q_55, .ref q_56, .int 0])), (q_47, .inl (cy 1, 36, .inl (fun _ => 0))), (q_48, .inl (cy 1, 6, .inl (fun _ => 0))), (q_49, .inl (cy 1, 6, .inl (fun _ => 0))), (q_50, .inl (cy 1, 6, .inl (fun _ => 0))), (q_51, .inl (cy 1, 6, .inl (fun _ => 0))), (q_52, .inl (cy 1, 8, .inl (fun _ => 0))), (q_54, .inl (cy 1, 8, .inl (fun _ => 0))), (q_55, .inl (cy 1, 8, .inl (fun _ => 0))), (q_56, .inl (cy 1, 6, .inl (fun _ => 0))), (q_53, .inl (cy 1, 8, .inl (fun _ => (-1))))] := hD
  refine W.widen (k := 45) (n := 453) (Nat.le_of_ble_eq_true rfl) (Nat.le_of_ble_eq_true rfl) ?_
  refine va_astq (r := (RX8, TX8, 13)) hx hb hK hP hD hS 1 4 13 8 rfl rfl rfl rfl (vp_in_nI (n := 3) (N := 9) (by decide) (by decide)) dX1_init_44 (fun H locs hP hD hS => ?_)
  obtain ⟨g_57, eg_57⟩ : ∃ g, g = va_up g_43 (Int32.toNatClampNeg 3) (some q_44) := ⟨_, rfl⟩
  have hP : va_P D classes [(h, .inr (1, [.ref q_1, .int 0, .int 0])), (q_1, .inl (cy 4, 9, .inr (.inr (.inr (.inr g_57))))), (q_2, .inr (8, [.ref pt, .int 0, .ref q_5, .ref q_6, .ref q_7, .ref q_8, .ref q_9, .ref q_10, .ref q_11, .ref q_12, .ref q_13, .ref q_14, .int 0])), (q_5, .inl (cy 1, 36, .inl (fun _ => 0))), (q_6, .inl (cy 1, 6, .inl (fun _ => 0))), (q_7, .inl (cy 1, 6, .inl (fun _ => 0))), (q_8, .inl (cy 1, 6, .inl (fun _ => 0))), (q_9, .inl (cy 1, 6, .inl (fun _ => 0))), (q_10, .inl (cy 1, 8, .inl (fun _ => 0))), (q_12, .inl (cy 1, 8, .inl (fun _ => 0))), (q_13, .inl (cy 1, 8, .inl (fun _ => 0))), (q_14, .inl (cy 1, 6, .inl (fun _ => 0))), (q_11, .inl (cy 1, 8, .inl (fun _ => (-1)))), (q_44, .inr (8, [.ref pt, .int 0, .ref q_47, .ref q_48, .ref q_49, .ref q_50, .ref q_51, .ref q_52, .ref q_53, .ref q_54, .ref q_55, .ref q_56, .int 0])), (q_47, .inl (cy 1, 36, .inl (fun _ => 0))), (q_48, .inl (cy 1, 6, .inl (fun _ => 0))), (q_49, .inl (cy 1, 6, .inl (fun _ => 0))), (q_50, .inl (cy 1, 6, .inl (fun _ => 0))), (q_51, .inl (cy 1, 6, .inl (fun _ => 0))), (q_52, .inl (cy 1, 8, .inl (fun _ => 0))), (q_54, .inl (cy 1, 8, .inl (fun _ => 0))), (q_55, .inl (cy 1, 8, .inl (fun _ => 0))), (q_56, .inl (cy 1, 6, .inl (fun _ => 0))), (q_53, .inl (cy 1, 8, .inl (fun _ => (-1))))] H := by rw [eg_57]; exact hP
  have hD : va_D A [(h, .inr (1, [.ref q_1, .int 0, .int 0])), (q_1, .inl (cy 4, 9, .inr (.inr (.inr (.inr g_57))))), (q_2, .inr (8, [.ref pt, .int 0, .ref q_5, .ref q_6, .ref q_7, .ref q_8, .ref q_9, .ref q_10, .ref q_11, .ref q_12, .ref q_13, .ref q_14, .int 0])), (q_5, .inl (cy 1, 36, .inl (fun _ => 0))), (q_6, .inl (cy 1, 6, .inl (fun _ => 0))), (q_7, .inl (cy 1, 6, .inl (fun _ => 0))), (q_8, .inl (cy 1, 6, .inl (fun _ => 0))), (q_9, .inl (cy 1, 6, .inl (fun _ => 0))), (q_10, .inl (cy 1, 8, .inl (fun _ => 0))), (q_12, .inl (cy 1, 8, .inl (fun _ => 0))), (q_13, .inl (cy 1, 8, .inl (fun _ => 0))), (q_14, .inl (cy 1, 6, .inl (fun _ => 0))), (q_11, .inl (cy 1, 8, .inl (fun _ => (-1)))), (q_44, .inr (8, [.ref pt, .int 0, .ref q_47, .ref q_48, .ref q_49, .ref q_50, .ref q_51, .ref q_52, .ref q_53, .ref q_54, .ref q_55, .ref q_56, .int 0])), (q_47, .inl (cy 1, 36, .inl (fun _ => 0))), (q_48, .inl (cy 1, 6, .inl (fun _ => 0))), (q_49, .inl (cy 1, 6, .inl (fun _ => 0))), (q_50, .inl (cy 1, 6, .inl (fun _ => 0))), (q_51, .inl (cy 1, 6, .inl (fun _ => 0))), (q_52, .inl (cy 1, 8, .inl (fun _ => 0))), (q_54, .inl (cy 1, 8, .inl (fun _ => 0))), (q_55, .inl (cy 1, 8, .inl (fun _ => 0))), (q_56, .inl (cy 1, 6, .inl (fun _ => 0))), (q_53, .inl (cy 1, 8, .inl (fun _ => (-1))))] := by rw [eg_57]; exact hD
  have hP : va_P D classes [(h, .inr (1, [.ref q_1, .int 0, .int 0])), (q_1, .inl (cy 4, 9, .inr (.inr (.inr (.inr g_57))))), (q_2, .inr (8, [.ref pt, .int 0, .ref q_5, .ref q_6, .ref q_7, .ref q_8, .ref q_9, .ref q_10, .ref q_11, .ref q_12, .ref q_13, .ref q_14, .int 0])), (q_5, .inl (cy 1, 36, .inl (fun _ => 0))), (q_6, .inl (cy 1, 6, .inl (fun _ => 0))), (q_7, .inl (cy 1, 6, .inl (fun _ => 0))), (q_8, .inl (cy 1, 6, .inl (fun _ => 0))), (q_9, .inl (cy 1, 6, .inl (fun _ => 0))), (q_10, .inl (cy 1, 8, .inl (fun _ => 0))), (q_12, .inl (cy 1, 8, .inl (fun _ => 0))), (q_13, .inl (cy 1, 8, .inl (fun _ => 0))), (q_14, .inl (cy 1, 6, .inl (fun _ => 0))), (q_11, .inl (cy 1, 8, .inl (fun _ => (-1))))] H := subP hP [0, 1, 2, 3, 4, 5, 6, 7, 8, 9, 10, 11, 12] rfl
  have hD : va_D A [(h, .inr (1, [.ref q_1, .int 0, .int 0])), (q_1, .inl (cy 4, 9, .inr (.inr (.inr (.inr g_57))))), (q_2, .inr (8, [.ref pt, .int 0, .ref q_5, .ref q_6, .ref q_7, .ref q_8, .ref q_9, .ref q_10, .ref q_11, .ref q_12, .ref q_13, .ref q_14, .int 0])), (q_5, .inl (cy 1, 36, .inl (fun _ => 0))), (q_6, .inl (cy 1, 6, .inl (fun _ => 0))), (q_7, .inl (cy 1, 6, .inl (fun _ => 0))), (q_8, .inl (cy 1, 6, .inl (fun _ => 0))), (q_9, .inl (cy 1, 6, .inl (fun _ => 0))), (q_10, .inl (cy 1, 8, .inl (fun _ => 0))), (q_12, .inl (cy 1, 8, .inl (fun _ => 0))), (q_13, .inl (cy 1, 8, .inl (fun _ => 0))), (q_14, .inl (cy 1, 6, .inl (fun _ => 0))), (q_11, .inl (cy 1, 8, .inl (fun _ => (-1))))] := hD.sub [0, 1, 2, 3, 4, 5, 6, 7, 8, 9, 10, 11, 12] (by decide) rfl
  refine lv_iinc (v := 4) (lv' := [(2, .int 4), (0, .ref h), (1, .ref pt)]) hx hb dX1_init_45 hl (k := 0) rfl (by decide) (by decide) rfl (fun ls hl => ?_)
  refine lv_goto (tgt := 25) hx hb dX1_init_48 (by decide) ?_
  refine lv_iload_n hx hb dX1_init_25 rfl (lv_at hl 0 rfl) ?_
  refine lv_bipush (v := 9) hx hb dX1_init_26 (by decide) ?_
  refine lv_icmp_ge (tgt := 51) hx hb dX1_init_28 (by decide) (fun c9 => absurd c9 (by decide)) (fun _ => ?_)
  refine lv_aload_n hx hb dX1_init_31 rfl (lv_at hl 1 rfl) ?_
  refine va_get (D := D) (ci := 1) (v := .ref q_1) (C := RX1) (T := TX1) (N := 3) hx hb hts inX1 hown hK hP 0 rfl rfl 0 (by decide) (hts _ tw_313) (fun _ h9 => h9) rfl dX1_init_32 ?_
  refine lv_iload_n hx hb dX1_init_35 rfl (lv_at hl 0 rfl) ?_
  refine va_new (ci := 8) (fs := [.null, .int 0, .null, .null, .null, .null, .null, .null, .null, .null, .null, .null, .int 0]) (C := RX8) (T := TX8) (N := 13) hx hb hts inX8 tyX8 tyX8_ok hown (hts _ tw_310) (hts _ tw_241) (hts _ tw_12) hK hP hD hS hA rfl (dfX8) (Nat.le_of_ble_eq_true rfl) (Nat.le_of_ble_eq_true rfl) dX1_init_36 (fun q_58 H hP hD hS => ?_)
  have hP : va_P D classes [(h, .inr (1, [.ref q_1, .int 0, .int 0])), (q_1, .inl (cy 4, 9, .inr (.inr (.inr (.inr g_57))))), (q_2, .inr (8, [.ref pt, .int 0, .ref q_5, .ref q_6, .ref q_7, .ref q_8, .ref q_9, .ref q_10, .ref q_11, .ref q_12, .ref q_13, .ref q_14, .int 0])), (q_5, .inl (cy 1, 36, .inl (fun _ => 0))), (q_6, .inl (cy 1, 6, .inl (fun _ => 0))), (q_7, .inl (cy 1, 6, .inl (fun _ => 0))), (q_8, .inl (cy 1, 6, .inl (fun _ => 0))), (q_9, .inl (cy 1, 6, .inl (fun _ => 0))), (q_10, .inl (cy 1, 8, .inl (fun _ => 0))), (q_12, .inl (cy 1, 8, .inl (fun _ => 0))), (q_13, .inl (cy 1, 8, .inl (fun _ => 0))), (q_14, .inl (cy 1, 6, .inl (fun _ => 0))), (q_11, .inl (cy 1, 8, .inl (fun _ => (-1)))), (q_58, .inr (8, [.null, .int 0, .null, .null, .null, .null, .null, .null, .null, .null, .null, .null, .int 0]))] H := hP
  have hD : va_D A [(h, .inr (1, [.ref q_1, .int 0, .int 0])), (q_1, .inl (cy 4, 9, .inr (.inr (.inr (.inr g_57))))), (q_2, .inr (8, [.ref pt, .int 0, .ref q_5, .ref q_6, .ref q_7, .ref q_8, .ref q_9, .ref q_10, .ref q_11, .ref q_12, .ref q_13, .ref q_14, .int 0])), (q_5, .inl (cy 1, 36, .inl (fun _ => 0))), (q_6, .inl (cy 1, 6, .inl (fun _ => 0))), (q_7, .inl (cy 1, 6, .inl (fun _ => 0))), (q_8, .inl (cy 1, 6, .inl (fun _ => 0))), (q_9, .inl (cy 1, 6, .inl (fun _ => 0))), (q_10, .inl (cy 1, 8, .inl (fun _ => 0))), (q_12, .inl (cy 1, 8, .inl (fun _ => 0))), (q_13, .inl (cy 1, 8, .inl (fun _ => 0))), (q_14, .inl (cy 1, 6, .inl (fun _ => 0))), (q_11, .inl (cy 1, 8, .inl (fun _ => (-1)))), (q_58, .inr (8, [.null, .int 0, .null, .null, .null, .null, .null, .null, .null, .null, .null, .null, .int 0]))] := hD
  refine W.widen (k := 46) (n := 466) (Nat.le_of_ble_eq_true rfl) (Nat.le_of_ble_eq_true rfl) ?_
  refine lv_dup hx hb dX1_init_39 rfl ?_
  refine lv_aload_n hx hb dX1_init_40 rfl (lv_at hl 2 rfl) ?_
  refine endv (wr := [(h, .inr (1, [.ref q_1, .int 0, .int 0])), (q_1, .inl (cy 4, 9, .inr (.inr (.inr (.inr g_57))))), (q_2, .inr (8, [.ref pt, .int 0, .ref q_5, .ref q_6, .ref q_7, .ref q_8, .ref q_9, .ref q_10, .ref q_11, .ref q_12, .ref q_13, .ref q_14, .int 0])), (q_5, .inl (cy 1, 36, .inl (fun _ => 0))), (q_6, .inl (cy 1, 6, .inl (fun _ => 0))), (q_7, .inl (cy 1, 6, .inl (fun _ => 0))), (q_8, .inl (cy 1, 6, .inl (fun _ => 0))), (q_9, .inl (cy 1, 6, .inl (fun _ => 0))), (q_10, .inl (cy 1, 8, .inl (fun _ => 0))), (q_12, .inl (cy 1, 8, .inl (fun _ => 0))), (q_13, .inl (cy 1, 8, .inl (fun _ => 0))), (q_14, .inl (cy 1, 6, .inl (fun _ => 0))), (q_11, .inl (cy 1, 8, .inl (fun _ => (-1))))]) (va_runI (As := [.ref pt]) (rest := [.ref q_58, .int 4, .ref q_1]) ⟨hx, hb, hml, hown, hts⟩ (c_World_init l D cy z H.size q_58 pt) (cwI 1 hts (gC tw_244) rfl rfl rfl (hts _ tw_12) (hts _ tw_312) (hts _ tw_243) rfl (by decide +kernel) ⟨Nat.le_of_ble_eq_true rfl, Nat.le_of_ble_eq_true rfl⟩) (preS hP hD hK hSD hS hA [13] rfl (by decide)) rfl rfl hl.1 rfl (lv_room (Nat.le_of_ble_eq_true rfl)) dX1_init_41 ⟨Nat.le_of_ble_eq_true rfl, Nat.le_of_ble_eq_true rfl⟩) hP hD hS hA [13] [0, 1, 2, 3, 4, 5, 6, 7, 8, 9, 10, 11, 12] rfl rfl (by decide) (by decide) (fun u_59 H locs hw_60 hP hD hS => ?_)
  obtain ⟨q_61, q_62, q_63, q_64, q_65, q_66, q_67, q_68, q_69, q_70⟩ := u_59
  have hP : va_P D classes [(h, .inr (1, [.ref q_1, .int 0, .int 0])), (q_1, .inl (cy 4, 9, .inr (.inr (.inr (.inr g_57))))), (q_2, .inr (8, [.ref pt, .int 0, .ref q_5, .ref q_6, .ref q_7, .ref q_8, .ref q_9, .ref q_10, .ref q_11, .ref q_12, .ref q_13, .ref q_14, .int 0])), (q_5, .inl (cy 1, 36, .inl (fun _ => 0))), (q_6, .inl (cy 1, 6, .inl (fun _ => 0))), (q_7, .inl (cy 1, 6, .inl (fun _ => 0))), (q_8, .inl (cy 1, 6, .inl (fun _ => 0))), (q_9, .inl (cy 1, 6, .inl (fun _ => 0))), (q_10, .inl (cy 1, 8, .inl (fun _ => 0))), (q_12, .inl (cy 1, 8, .inl (fun _ => 0))), (q_13, .inl (cy 1, 8, .inl (fun _ => 0))), (q_14, .inl (cy 1, 6, .inl (fun _ => 0))), (q_11, .inl (cy 1, 8, .inl (fun _ => (-1)))), (q_58, .inr (8, [.ref pt, .int 0, .ref q_61, .ref q_62, .ref q_63, .ref q_64, .ref q_65, .ref q_66, .ref q_67, .ref q_68, .ref q_69, .ref q_70, .int 0])), (q_61, .inl (cy 1, 36, .inl (fun _ => 0))), (q_62, .inl (cy 1, 6, .inl (fun _ => 0))), (q_63, .inl (cy 1, 6, .inl (fun _ => 0))), (q_64, .inl (cy 1, 6, .inl (fun _ => 0))), (q_65, .inl (cy 1, 6, .inl (fun _ => 0))), (q_66, .inl (cy 1, 8, .inl (fun _ => 0))), (q_68, .inl (cy 1, 8, .inl (fun _ => 0))), (q_69, .inl (cy 1, 8, .inl (fun _ => 0))), (q_70, .inl (cy 1, 6, .inl (fun _ => 0))), (q_67, .inl (cy 1, 8, .inl (fun _ => (-1))))] H := hP
  have hD : va_D A [(h, .inr (1, [.ref q_1, .int 0, .int 0])), (q_1, .inl (cy 4, 9, .inr (.inr (.inr (.inr g_57))))), (q_2, .inr (8, [.ref pt, .int 0, .ref q_5, .ref q_6, .ref q_7, .ref q_8, .ref q_9, .ref q_10, .ref q_11, .ref q_12, .ref q_13, .ref q_14, .int 0])), (q_5, .inl (cy 1, 36, .inl (fun _ => 0))), (q_6, .inl (cy 1, 6, .inl (fun _ => 0))), (q_7, .inl (cy 1, 6, .inl (fun _ => 0))), (q_8, .inl (cy 1, 6, .inl (fun _ => 0))), (q_9, .inl (cy 1, 6, .inl (fun _ => 0))), (q_10, .inl (cy 1, 8, .inl (fun _ => 0))), (q_12, .inl (cy 1, 8, .inl (fun _ => 0))), (q_13, .inl (cy 1, 8, .inl (fun _ => 0))), (q_14, .inl (cy 1, 6, .inl (fun _ => 0))), (q_11, .inl (cy 1, 8, .inl (fun _ => (-1)))), (q_58, .inr (8, [.ref pt, .int 0, .ref q_61, .ref q_62, .ref q_63, .ref q_64, .ref q_65, .ref q_66, .ref q_67, .ref q_68, .ref q_69, .ref q_70, .int 0])), (q_61, .inl (cy 1, 36, .inl (fun _ => 0))), (q_62, .inl (cy 1, 6, .inl (fun _ => 0))), (q_63, .inl (cy 1, 6, .inl (fun _ => 0))), (q_64, .inl (cy 1, 6, .inl (fun _ => 0))), (q_65, .inl (cy 1, 6, .inl (fun _ => 0))), (q_66, .inl (cy 1, 8, .inl (fun _ => 0))), (q_68, .inl (cy 1, 8, .inl (fun _ => 0))), (q_69, .inl (cy 1, 8, .inl (fun _ => 0))), (q_70, .inl (cy 1, 6, .inl (fun _ => 0))), (q_67, .inl (cy 1, 8, .inl (fun _ => (-1))))] := hD
  refine W.widen (k := 56) (n := 564) (Nat.le_of_ble_eq_true rfl) (Nat.le_of_ble_eq_true rfl) ?_
  refine va_astq (r := (RX8, TX8, 13)) hx hb hK hP hD hS 1 4 13 8 rfl rfl rfl rfl (vp_in_nI (n := 4) (N := 9) (by decide) (by decide)) dX1_init_44 (fun H locs hP hD hS => ?_)
  obtain ⟨g_71, eg_71⟩ : ∃ g, g = va_up g_57 (Int32.toNatClampNeg 4) (some q_58) := ⟨_, rfl⟩
  have hP : va_P D classes [(h, .inr (1, [.ref q_1, .int 0, .int 0])), (q_1, .inl (cy 4, 9, .inr (.inr (.inr (.inr g_71))))), (q_2, .inr (8, [.ref pt, .int 0, .ref q_5, .ref q_6, .ref q_7, .ref q_8, .ref q_9, .ref q_10, .ref q_11, .ref q_12, .ref q_13, .ref q_14, .int 0])), (q_5, .inl (cy 1, 36, .inl (fun _ => 0))), (q_6, .inl (cy 1, 6, .inl (fun _ => 0))), (q_7, .inl (cy 1, 6, .inl (fun _ => 0))), (q_8, .inl (cy 1, 6, .inl (fun _ => 0))), (q_9, .inl (cy 1, 6, .inl (fun _ => 0))), (q_10, .inl (cy 1, 8, .inl (fun _ => 0))), (q_12, .inl (cy 1, 8, .inl (fun _ => 0))), (q_13, .inl (cy 1, 8, .inl (fun _ => 0))), (q_14, .inl (cy 1, 6, .inl (fun _ => 0))), (q_11, .inl (cy 1, 8, .inl (fun _ => (-1)))), (q_58, .inr (8, [.ref pt, .int 0, .ref q_61, .ref q_62, .ref q_63, .ref q_64, .ref q_65, .ref q_66, .ref q_67, .ref q_68, .ref q_69, .ref q_70, .int 0])), (q_61, .inl (cy 1, 36, .inl (fun _ => 0))), (q_62, .inl (cy 1, 6, .inl (fun _ => 0))), (q_63, .inl (cy 1, 6, .inl (fun _ => 0))), (q_64, .inl (cy 1, 6, .inl (fun _ => 0))), (q_65, .inl (cy 1, 6, .inl (fun _ => 0))), (q_66, .inl (cy 1, 8, .inl (fun _ => 0))), (q_68, .inl (cy 1, 8, .inl (fun _ => 0))), (q_69, .inl (cy 1, 8, .inl (fun _ => 0))), (q_70, .inl (cy 1, 6, .inl (fun _ => 0))), (q_67, .inl (cy 1, 8, .inl (fun _ => (-1))))] H := by rw [eg_71]; exact hP
  have hD : va_D A [(h, .inr (1, [.ref q_1, .int 0, .int 0])), (q_1, .inl (cy 4, 9, .inr (.inr (.inr (.inr g_71))))), (q_2, .inr (8, [.ref pt, .int 0, .ref q_5, .ref q_6, .ref q_7, .ref q_8, .ref q_9, .ref q_10, .ref q_11, .ref q_12, .ref q_13, .ref q_14, .int 0])), (q_5, .inl (cy 1, 36, .inl (fun _ => 0))), (q_6, .inl (cy 1, 6, .inl (fun _ => 0))), (q_7, .inl (cy 1, 6, .inl (fun _ => 0))), (q_8, .inl (cy 1, 6, .inl (fun _ => 0))), (q_9, .inl (cy 1, 6, .inl (fun _ => 0))), (q_10, .inl (cy 1, 8, .inl (fun _ => 0))), (q_12, .inl (cy 1, 8, .inl (fun _ => 0))), (q_13, .inl (cy 1, 8, .inl (fun _ => 0))), (q_14, .inl (cy 1, 6, .inl (fun _ => 0))), (q_11, .inl (cy 1, 8, .inl (fun _ => (-1)))), (q_58, .inr (8, [.ref pt, .int 0, .ref q_61, .ref q_62, .ref q_63, .ref q_64, .ref q_65, .ref q_66, .ref q_67, .ref q_68, .ref q_69, .ref q_70, .int 0])), (q_61, .inl (cy 1, 36, .inl (fun _ => 0))), (q_62, .inl (cy 1, 6, .inl (fun _ => 0))), (q_63, .inl (cy 1, 6, .inl (fun _ => 0))), (q_64, .inl (cy 1, 6, .inl (fun _ => 0))), (q_65, .inl (cy 1, 6, .inl (fun _ => 0))), (q_66, .inl (cy 1, 8, .inl (fun _ => 0))), (q_68, .inl (cy 1, 8, .inl (fun _ => 0))), (q_69, .inl (cy 1, 8, .inl (fun _ => 0))), (q_70, .inl (cy 1, 6, .inl (fun _ => 0))), (q_67, .inl (cy 1, 8, .inl (fun _ => (-1))))] := by rw [eg_71]; exact hD
  have hP : va_P D classes [(h, .inr (1, [.ref q_1, .int 0, .int 0])), (q_1, .inl (cy 4, 9, .inr (.inr (.inr (.inr g_71))))), (q_2, .inr (8, [.ref pt, .int 0, .ref q_5, .ref q_6, .ref q_7, .ref q_8, .ref q_9, .ref q_10, .ref q_11, .ref q_12, .ref q_13, .ref q_14, .int 0])), (q_5, .inl (cy 1, 36, .inl (fun _ => 0))), (q_6, .inl (cy 1, 6, .inl (fun _ => 0))), (q_7, .inl (cy 1, 6, .inl (fun _ => 0))), (q_8, .inl (cy 1, 6, .inl (fun _ => 0))), (q_9, .inl (cy 1, 6, .inl (fun _ => 0))), (q_10, .inl (cy 1, 8, .inl (fun _ => 0))), (q_12, .inl (cy 1, 8, .inl (fun _ => 0))), (q_13, .inl (cy 1, 8, .inl (fun _ => 0))), (q_14, .inl (cy 1, 6, .inl (fun _ => 0))), (q_11, .inl (cy 1, 8, .inl (fun _ => (-1))))] H := subP hP [0, 1, 2, 3, 4, 5, 6, 7, 8, 9, 10, 11, 12] rfl
  have hD : va_D A [(h, .inr (1, [.ref q_1, .int 0, .int 0])), (q_1, .inl (cy 4, 9, .inr (.inr (.inr (.inr g_71))))), (q_2, .inr (8, [.ref pt, .int 0, .ref q_5, .ref q_6, .ref q_7, .ref q_8, .ref q_9, .ref q_10, .ref q_11, .ref q_12, .ref q_13, .ref q_14, .int 0])), (q_5, .inl (cy 1, 36, .inl (fun _ => 0))), (q_6, .inl (cy 1, 6, .inl (fun _ => 0))), (q_7, .inl (cy 1, 6, .inl (fun _ => 0))), (q_8, .inl (cy 1, 6, .inl (fun _ => 0))), (q_9, .inl (cy 1, 6, .inl (fun _ => 0))), (q_10, .inl (cy 1, 8, .inl (fun _ => 0))), (q_12, .inl (cy 1, 8, .inl (fun _ => 0))), (q_13, .inl (cy 1, 8, .inl (fun _ => 0))), (q_14, .inl (cy 1, 6, .inl (fun _ => 0))), (q_11, .inl (cy 1, 8, .inl (fun _ => (-1))))] := hD.sub [0, 1, 2, 3, 4, 5, 6, 7, 8, 9, 10, 11, 12] (by decide) rfl
  refine lv_iinc (v := 5) (lv' := [(2, .int 5), (0, .ref h), (1, .ref pt)]) hx hb dX1_init_45 hl (k := 0) rfl (by decide) (by decide) rfl (fun ls hl => ?_)
  refine lv_goto (tgt := 25) hx hb dX1_init_48 (by decide) ?_
  refine lv_iload_n hx hb dX1_init_25 rfl (lv_at hl 0 rfl) ?_
  refine lv_bipush (v := 9) hx hb dX1_init_26 (by decide) ?_
  refine lv_icmp_ge (tgt := 51) hx hb dX1_init_28 (by decide) (fun c9 => absurd c9 (by decide)) (fun _ => ?_)
  refine lv_aload_n hx hb dX1_init_31 rfl (lv_at hl 1 rfl) ?_
  refine va_get (D := D) (ci := 1) (v := .ref q_1) (C := RX1) (T := TX1) (N := 3) hx hb hts inX1 hown hK hP 0 rfl rfl 0 (by decide) (hts _ tw_313) (fun _ h9 => h9) rfl dX1_init_32 ?_
  refine lv_iload_n hx hb dX1_init_35 rfl (lv_at hl 0 rfl) ?_
  refine va_new (ci := 8) (fs := [.null, .int 0, .null, .null, .null, .null, .null, .null, .null, .null, .null, .null, .int 0]) (C := RX8) (T := TX8) (N := 13) hx hb hts inX8 tyX8 tyX8_ok hown (hts _ tw_310) (hts _ tw_241) (hts _ tw_12) hK hP hD hS hA rfl (dfX8) (Nat.le_of_ble_eq_true rfl) (Nat.le_of_ble_eq_true rfl) dX1_init_36 (fun q_72 H hP hD hS => ?_)
  have hP : va_P D classes [(h, .inr (1, [.ref q_1, .int 0, .int 0])), (q_1, .inl (cy 4, 9, .inr (.inr (.inr (.inr g_71))))), (q_2, .inr (8, [.ref pt, .int 0, .ref q_5, .ref q_6, .ref q_7, .ref q_8, .ref q_9, .ref q_10, .ref q_11, .ref q_12, .ref q_13, .ref q_14, .int 0])), (q_5, .inl (cy 1, 36, .inl (fun _ => 0))), (q_6, .inl (cy 1, 6, .inl (fun _ => 0))), (q_7, .inl (cy 1, 6, .inl (fun _ => 0))), (q_8, .inl (cy 1, 6, .inl (fun _ => 0))), (q_9, .inl (cy 1, 6, .inl (fun _ => 0))), (q_10, .inl (cy 1, 8, .inl (fun _ => 0))), (q_12, .inl (cy 1, 8, .inl (fun _ => 0))), (q_13, .inl (cy 1, 8, .inl (fun _ => 0))), (q_14, .inl (cy 1, 6, .inl (fun _ => 0))), (q_11, .inl (cy 1, 8, .inl (fun _ => (-1)))), (q_72, .inr (8, [.null, .int 0, .null, .null, .null, .null, .null, .null, .null, .null, .null, .null, .int 0]))] H := hP
  have hD : va_D A [(h, .inr (1, [.ref q_1, .int 0, .int 0])), (q_1, .inl (cy 4, 9, .inr (.inr (.inr (.inr g_71))))), (q_2, .inr (8, [.ref pt, .int 0, .ref q_5, .ref q_6, .ref q_7, .ref q_8, .ref q_9, .ref q_10, .ref q_11, .ref q_12, .ref q_13, .ref q_14, .int 0])), (q_5, .inl (cy 1, 36, .inl (fun _ => 0))), (q_6, .inl (cy 1, 6, .inl (fun _ => 0))), (q_7, .inl (cy 1, 6, .inl (fun _ => 0))), (q_8, .inl (cy 1, 6, .inl (fun _ => 0))), (q_9, .inl (cy 1, 6, .inl (fun _ => 0))), (q_10, .inl (cy 1, 8, .inl (fun _ => 0))), (q_12, .inl (cy 1, 8, .inl (fun _ => 0))), (q_13, .inl (cy 1, 8, .inl (fun _ => 0))), (q_14, .inl (cy 1, 6, .inl (fun _ => 0))), (q_11, .inl (cy 1, 8, .inl (fun _ => (-1)))), (q_72, .inr (8, [.null, .int 0, .null, .null, .null, .null, .null, .null, .null, .null, .null, .null, .int 0]))] := hD
  refine W.widen (k := 57) (n := 577) (Nat.le_of_ble_eq_true rfl) (Nat.le_of_ble_eq_true rfl) ?_
  refine lv_dup hx hb dX1_init_39 rfl ?_
  refine lv_aload_n hx hb dX1_init_40 rfl (lv_at hl 2 rfl) ?_
  refine endv (wr := [(h, .inr (1, [.ref q_1, .int 0, .int 0])), (q_1, .inl (cy 4, 9, .inr (.inr (.inr (.inr g_71))))), (q_2, .inr (8, [.ref pt, .int 0, .ref q_5, .ref q_6, .ref q_7, .ref q_8, .ref q_9, .ref q_10, .ref q_11, .ref q_12, .ref q_13, .ref q_14, .int 0])), (q_5, .inl (cy 1, 36, .inl (fun _ => 0))), (q_6, .inl (cy 1, 6, .inl (fun _ => 0))), (q_7, .inl (cy 1, 6, .inl (fun _ => 0))), (q_8, .inl (cy 1, 6, .inl (fun _ => 0))), (q_9, .inl (cy 1, 6, .inl (fun _ => 0))), (q_10, .inl (cy 1, 8, .inl (fun _ => 0))), (q_12, .inl (cy 1, 8, .inl (fun _ => 0))), (q_13, .inl (cy 1, 8, .inl (fun _ => 0))), (q_14, .inl (cy 1, 6, .inl (fun _ => 0))), (q_11, .inl (cy 1, 8, .inl (fun _ => (-1))))]) (va_runI (As := [.ref pt]) (rest := [.ref q_72, .int 5, .ref q_1]) ⟨hx, hb, hml, hown, hts⟩ (c_World_init l D cy z H.size q_72 pt) (cwI 1 hts (gC tw_244) rfl rfl rfl (hts _ tw_12) (hts _ tw_312) (hts _ tw_243) rfl (by decide +kernel) ⟨Nat.le_of_ble_eq_true rfl, Nat.le_of_ble_eq_true rfl⟩) (preS hP hD hK hSD hS hA [13] rfl (by decide)) rfl rfl hl.1 rfl (lv_room (Nat.le_of_ble_eq_true rfl)) dX1_init_41 ⟨Nat.le_of_ble_eq_true rfl, Nat.le_of_ble_eq_true rfl⟩) hP hD hS hA [13] [0, 1, 2, 3, 4, 5, 6, 7, 8, 9, 10, 11, 12] rfl rfl (by decide) (by decide) (fun u_73 H locs hw_74 hP hD hS => ?_)
  obtain ⟨q_75, q_76, q_77, q_78, q_79, q_80, q_81, q_82, q_83, q_84⟩ := u_73
  have hP : va_P D classes [(h, .inr (1, [.ref q_1, .int 0, .int 0])), (q_1, .inl (cy 4, 9, .inr (.inr (.inr (.inr g_71))))), (q_2, .inr (8, [.ref pt, .int 0, .ref q_5, .ref q_6, .ref q_7, .ref q_8, .ref q_9, .ref q_10, .ref q_11, .ref q_12, .ref q_13, .ref q_14, .int 0])), (q_5, .inl (cy 1, 36, .inl (fun _ => 0))), (q_6, .inl (cy 1, 6, .inl (fun _ => 0))), (q_7, .inl (cy 1, 6, .inl (fun _ => 0))), (q_8, .inl (cy 1, 6, .inl (fun _ => 0))), (q_9, .inl (cy 1, 6, .inl (fun _ => 0))), (q_10, .inl (cy 1, 8, .inl (fun _ => 0))), (q_12, .inl (cy 1, 8, .inl (fun _ => 0))), (q_13, .inl (cy 1, 8, .inl (fun _ => 0))), (q_14, .inl (cy 1, 6, .inl (fun _ => 0))), (q_11, .inl (cy 1, 8, .inl (fun _ => (-1)))), (q_72, .inr (8, [.ref pt, .int 0, .ref q_75, .ref q_76, .ref q_77, .ref q_78, .ref q_79, .ref q_80, .ref q_81, .ref q_82, .ref q_83, .ref q_84, .int 0])), (q_75, .inl (cy 1, 36, .inl (fun _ => 0))), (q_76, .inl (cy 1, 6, .inl (fun _ => 0))), (q_77, .inl (cy 1, 6, .inl (fun _ => 0))), (q_78, .inl (cy 1, 6, .inl (fun _ => 0))), (q_79, .inl (cy 1, 6, .inl (fun _ => 0))), (q_80, .inl (cy 1, 8, .inl (fun _ => 0))), (q_82, .inl (cy 1, 8, .inl (fun _ => 0))), (q_83, .inl (cy 1, 8, .inl (fun _ => 0))), (q_84, .inl (cy 1, 6, .inl (fun _ => 0))), (q_81, .inl (cy 1, 8, .inl (fun _ => (-1))))] H := hP
  have hD : va_D A [(h, .inr (1, [.ref q_1, .int 0, .int 0])), (q_1, .inl (cy 4, 9, .inr (.inr (.inr (.inr g_71))))), (q_2, .inr (8, [.ref pt, .int 0, .ref q_5, .ref q_6, .ref q_7, .ref q_8, .ref q_9, .ref q_10, .ref q_11, .ref q_12, .ref q_13, .ref q_14, .int 0])), (q_5, .inl (cy 1, 36, .inl (fun _ => 0))), (q_6, .inl (cy 1, 6, .inl (fun _ => 0))), (q_7, .inl (cy 1, 6, .inl (fun _ => 0))), (q_8, .inl (cy 1, 6, .inl (fun _ => 0))), (q_9, .inl (cy 1, 6, .inl (fun _ => 0))), (q_10, .inl (cy 1, 8, .inl (fun _ => 0))), (q_12, .inl (cy 1, 8, .inl (fun _ => 0))), (q_13, .inl (cy 1, 8, .inl (fun _ => 0))), (q_14, .inl (cy 1, 6, .inl (fun _ => 0))), (q_11, .inl (cy 1, 8, .inl (fun _ => (-1)))), (q_72, .inr (8, [.ref pt, .int 0, .ref q_75, .ref q_76, .ref q_77, .ref q_78, .ref q_79, .ref q_80, .ref q_81, .ref q_82, .ref q_83, .ref q_84, .int 0])), (q_75, .inl (cy 1, 36, .inl (fun _ => 0))), (q_76, .inl (cy 1, 6, .inl (fun _ => 0))), (q_77, .inl (cy 1, 6, .inl (fun _ => 0))), (q_78, .inl (cy 1, 6, .inl (fun _ => 0))), (q_79, .inl (cy 1, 6, .inl (fun _ => 0))), (q_80, .inl (cy 1, 8, .inl (fun _ => 0))), (q_82, .inl (cy 1, 8, .inl (fun _ => 0))), (q_83, .inl (cy 1, 8, .inl (fun _ => 0))), (q_84, .inl (cy 1, 6, .inl (fun _ => 0))), (q_81, .inl (cy 1, 8, .inl (fun _ => (-1))))] := hD
  refine W.widen (k := 67) (n := 675) (Nat.le_of_ble_eq_true rfl) (Nat.le_of_ble_eq_true rfl) ?_
  refine va_astq (r := (RX8, TX8, 13)) hx hb hK hP hD hS 1 4 13 8 rfl rfl rfl rfl (vp_in_nI (n := 5) (N := 9) (by decide) (by decide)) dX1_init_44 (fun H locs hP hD hS => ?_)
  obtain ⟨g_85, eg_85⟩ : ∃ g, g = va_up g_71 (Int32.toNatClampNeg 5) (some q_72) := ⟨_, rfl⟩
  have hP : va_P D classes [(h, .inr (1, [.ref q_1, .int 0, .int 0])), (q_1, .inl (cy 4, 9, .inr (.inr (.inr (.inr g_85))))), (q_2, .inr (8, [.ref pt, .int 0, .ref q_5, .ref q_6, .ref q_7, .ref q_8, .ref q_9, .ref q_10, .ref q_11, .ref q_12, .ref q_13, .ref q_14, .int 0])), (q_5, .inl (cy 1, 36, .inl (fun _ => 0))), (q_6, .inl (cy 1, 6, .inl (fun _ => 0))), (q_7, .inl (cy 1, 6, .inl (fun _ => 0))), (q_8, .inl (cy 1, 6, .inl (fun _ => 0))), (q_9, .inl (cy 1, 6, .inl (fun _ => 0))), (q_10, .inl (cy 1, 8, .inl (fun _ => 0))), (q_12, .inl (cy 1, 8, .inl (fun _ => 0))), (q_13, .inl (cy 1, 8, .inl (fun _ => 0))), (q_14, .inl (cy 1, 6, .inl (fun _ => 0))), (q_11, .inl (cy 1, 8, .inl (fun _ => (-1)))), (q_72, .inr (8, [.ref pt, .int 0, .ref q_75, .ref q_76, .ref q_77, .ref q_78, .ref q_79, .ref q_80, .ref q_81, .ref q_82, .ref q_83, .ref q_84, .int 0])), (q_75, .inl (cy 1, 36, .inl (fun _ => 0))), (q_76, .inl (cy 1, 6, .inl (fun _ => 0))), (q_77, .inl (cy 1, 6, .inl (fun _ => 0))), (q_78, .inl (cy 1, 6, .inl (fun _ => 0))), (q_79, .inl (cy 1, 6, .inl (fun _ => 0))), (q_80, .inl (cy 1, 8, .inl (fun _ => 0))), (q_82, .inl (cy 1, 8, .inl (fun _ => 0))), (q_83, .inl (cy 1, 8, .inl (fun _ => 0))), (q_84, .inl (cy 1, 6, .inl (fun _ => 0))), (q_81, .inl (cy 1, 8, .inl (fun _ => (-1))))] H := by rw [eg_85]; exact hP
  have hD : va_D A [(h, .inr (1, [.ref q_1, .int 0, .int 0])), (q_1, .inl (cy 4, 9, .inr (.inr (.inr (.inr g_85))))), (q_2, .inr (8, [.ref pt, .int 0, .ref q_5, .ref q_6, .ref q_7, .ref q_8, .ref q_9, .ref q_10, .ref q_11, .ref q_12, .ref q_13, .ref q_14, .int 0])), (q_5, .inl (cy 1, 36, .inl (fun _ => 0))), (q_6, .inl (cy 1, 6, .inl (fun _ => 0))), (q_7, .inl (cy 1, 6, .inl (fun _ => 0))), (q_8, .inl (cy 1, 6, .inl (fun _ => 0))), (q_9, .inl (cy 1, 6, .inl (fun _ => 0))), (q_10, .inl (cy 1, 8, .inl (fun _ => 0))), (q_12, .inl (cy 1, 8, .inl (fun _ => 0))), (q_13, .inl (cy 1, 8, .inl (fun _ => 0))), (q_14, .inl (cy 1, 6, .inl (fun _ => 0))), (q_11, .inl (cy 1, 8, .inl (fun _ => (-1)))), (q_72, .inr (8, [.ref pt, .int 0, .ref q_75, .ref q_76, .ref q_77, .ref q_78, .ref q_79, .ref q_80, .ref q_81, .ref q_82, .ref q_83, .ref q_84, .int 0])), (q_75, .inl (cy 1, 36, .inl (fun _ => 0))), (q_76, .inl (cy 1, 6, .inl (fun _ => 0))), (q_77, .inl (cy 1, 6, .inl (fun _ => 0))), (q_78, .inl (cy 1, 6, .inl (fun _ => 0))), (q_79, .inl (cy 1, 6, .inl (fun _ => 0))), (q_80, .inl (cy 1, 8, .inl (fun _ => 0))), (q_82, .inl (cy 1, 8, .inl (fun _ => 0))), (q_83, .inl (cy 1, 8, .inl (fun _ => 0))), (q_84, .inl (cy 1, 6, .inl (fun _ => 0))), (q_81, .inl (cy 1, 8, .inl (fun _ => (-1))))] := by rw [eg_85]; exact hD
  have hP : va_P D classes [(h, .inr (1, [.ref q_1, .int 0, .int 0])), (q_1, .inl (cy 4, 9, .inr (.inr (.inr (.inr g_85))))), (q_2, .inr (8, [.ref pt, .int 0, .ref q_5, .ref q_6, .ref q_7, .ref q_8, .ref q_9, .ref q_10, .ref q_11, .ref q_12, .ref q_13, .ref q_14, .int 0])), (q_5, .inl (cy 1, 36, .inl (fun _ => 0))), (q_6, .inl (cy 1, 6, .inl (fun _ => 0))), (q_7, .inl (cy 1, 6, .inl (fun _ => 0))), (q_8, .inl (cy 1, 6, .inl (fun _ => 0))), (q_9, .inl (cy 1, 6, .inl (fun _ => 0))), (q_10, .inl (cy 1, 8, .inl (fun _ => 0))), (q_12, .inl (cy 1, 8, .inl (fun _ => 0))), (q_13, .inl (cy 1, 8, .inl (fun _ => 0))), (q_14, .inl (cy 1, 6, .inl (fun _ => 0))), (q_11, .inl (cy 1, 8, .inl (fun _ => (-1))))] H := subP hP [0, 1, 2, 3, 4, 5, 6, 7, 8, 9, 10, 11, 12] rfl
  have hD : va_D A [(h, .inr (1, [.ref q_1, .int 0, .int 0])), (q_1, .inl (cy 4, 9, .inr (.inr (.inr (.inr g_85))))), (q_2, .inr (8, [.ref pt, .int 0, .ref q_5, .ref q_6, .ref q_7, .ref q_8, .ref q_9, .ref q_10, .ref q_11, .ref q_12, .ref q_13, .ref q_14, .int 0])), (q_5, .inl (cy 1, 36, .inl (fun _ => 0))), (q_6, .inl (cy 1, 6, .inl (fun _ => 0))), (q_7, .inl (cy 1, 6, .inl (fun _ => 0))), (q_8, .inl (cy 1, 6, .inl (fun _ => 0))), (q_9, .inl (cy 1, 6, .inl (fun _ => 0))), (q_10, .inl (cy 1, 8, .inl (fun _ => 0))), (q_12, .inl (cy 1, 8, .inl (fun _ => 0))), (q_13, .inl (cy 1, 8, .inl (fun _ => 0))), (q_14, .inl (cy 1, 6, .inl (fun _ => 0))), (q_11, .inl (cy 1, 8, .inl (fun _ => (-1))))] := hD.sub [0, 1, 2, 3, 4, 5, 6, 7, 8, 9, 10, 11, 12] (by decide) rfl
  refine lv_iinc (v := 6) (lv' := [(2, .int 6), (0, .ref h), (1, .ref pt)]) hx hb dX1_init_45 hl (k := 0) rfl (by decide) (by decide) rfl (fun ls hl => ?_)
  refine lv_goto (tgt := 25) hx hb dX1_init_48 (by decide) ?_
  refine lv_iload_n hx hb dX1_init_25 rfl (lv_at hl 0 rfl) ?_
  refine lv_bipush (v := 9) hx hb dX1_init_26 (by decide) ?_
  refine lv_icmp_ge (tgt := 51) hx hb dX1_init_28 (by decide) (fun c9 => absurd c9 (by decide)) (fun _ => ?_)
  refine lv_aload_n hx hb dX1_init_31 rfl (lv_at hl 1 rfl) ?_
  refine va_get (D := D) (ci := 1) (v := .ref q_1) (C := RX1) (T := TX1) (N := 3) hx hb hts inX1 hown hK hP 0 rfl rfl 0 (by decide) (hts _ tw_313) (fun _ h9 => h9) rfl dX1_init_32 ?_
  refine lv_iload_n hx hb dX1_init_35 rfl (lv_at hl 0 rfl) ?_
  refine va_new (ci := 8) (fs := [.null, .int 0, .null, .null, .null, .null, .null, .null, .null, .null, .null, .null, .int 0]) (C := RX8) (T := TX8) (N := 13) hx hb hts inX8 tyX8 tyX8_ok hown (hts _ tw_310) (hts _ tw_241) (hts _ tw_12) hK hP hD hS hA rfl (dfX8) (Nat.le_of_ble_eq_true rfl) (Nat.le_of_ble_eq_true rfl) dX1_init_36 (fun q_86 H hP hD hS => ?_)
  have hP : va_P D classes [(h, .inr (1, [.ref q_1, .int 0, .int 0])), (q_1, .inl (cy 4, 9, .inr (.inr (.inr (.inr g_85))))), (q_2, .inr (8, [.ref pt, .int 0, .ref q_5, .ref q_6, .ref q_7, .ref q_8, .ref q_9, .ref q_10, .ref q_11, .ref q_12, .ref q_13, .ref q_14, .int 0])), (q_5, .inl (cy 1, 36, .inl (fun _ => 0))), (q_6, .inl (cy 1, 6, .inl (fun _ => 0))), (q_7, .inl (cy 1, 6, .inl (fun _ => 0))), (q_8, .inl (cy 1, 6, .inl (fun _ => 0))), (q_9, .inl (cy 1, 6, .inl (fun _ => 0))), (q_10, .inl (cy 1, 8, .inl (fun _ => 0))), (q_12, .inl (cy 1, 8, .inl (fun _ => 0))), (q_13, .inl (cy 1, 8, .inl (fun _ => 0))), (q_14, .inl (cy 1, 6, .inl (fun _ => 0))), (q_11, .inl (cy 1, 8, .inl (fun _ => (-1)))), (q_86, .inr (8, [.null, .int 0, .null, .null, .null, .null, .null, .null, .null, .null, .null, .null, .int 0]))] H := hP
  have hD : va_D A [(h, .inr (1, [.ref q_1, .int 0, .int 0])), (q_1, .inl (cy 4, 9, .inr (.inr (.inr (.inr g_85))))), (q_2, .inr (8, [.ref pt, .int 0, .ref q_5, .ref q_6, .ref q_7, .ref q_8, .ref q_9, .ref q_10, .ref q_11, .ref q_12, .ref q_13, .ref q_14, .int 0])), (q_5, .inl (cy 1, 36, .inl (fun _ => 0))), (q_6, .inl (cy 1, 6, .inl (fun _ => 0))), (q_7, .inl (cy 1, 6, .inl (fun _ => 0))), (q_8, .inl (cy 1, 6, .inl (fun _ => 0))), (q_9, .inl (cy 1, 6, .inl (fun _ => 0))), (q_10, .inl (cy 1, 8, .inl (fun _ => 0))), (q_12, .inl (cy 1, 8, .inl (fun _ => 0))), (q_13, .inl (cy 1, 8, .inl (fun _ => 0))), (q_14, .inl (cy 1, 6, .inl (fun _ => 0))), (q_11, .inl (cy 1, 8, .inl (fun _ => (-1)))), (q_86, .inr (8, [.null, .int 0, .null, .null, .null, .null, .null, .null, .null, .null, .null, .null, .int 0]))] := hD
  refine W.widen (k := 68) (n := 688) (Nat.le_of_ble_eq_true rfl) (Nat.le_of_ble_eq_true rfl) ?_
  refine lv_dup hx hb dX1_init_39 rfl ?_
  refine lv_aload_n hx hb dX1_init_40 rfl (lv_at hl 2 rfl) ?_
  refine endv (wr := [(h, .inr (1, [.ref q_1, .int 0, .int 0])), (q_1, .inl (cy 4, 9, .inr (.inr (.inr (.inr g_85))))), (q_2, .inr (8, [.ref pt, .int 0, .ref q_5, .ref q_6, .ref q_7, .ref q_8, .ref q_9, .ref q_10, .ref q_11, .ref q_12, .ref q_13, .ref q_14, .int 0])), (q_5, .inl (cy 1, 36, .inl (fun _ => 0))), (q_6, .inl (cy 1, 6, .inl (fun _ => 0))), (q_7, .inl (cy 1, 6, .inl (fun _ => 0))), (q_8, .inl (cy 1, 6, .inl (fun _ => 0))), (q_9, .inl (cy 1, 6, .inl (fun _ => 0))), (q_10, .inl (cy 1, 8, .inl (fun _ => 0))), (q_12, .inl (cy 1, 8, .inl (fun _ => 0))), (q_13, .inl (cy 1, 8, .inl (fun _ => 0))), (q_14, .inl (cy 1, 6, .inl (fun _ => 0))), (q_11, .inl (cy 1, 8, .inl (fun _ => (-1))))]) (va_runI (As := [.ref pt]) (rest := [.ref q_86, .int 6, .ref q_1]) ⟨hx, hb, hml, hown, hts⟩ (c_World_init l D cy z H.size q_86 pt) (cwI 1 hts (gC tw_244) rfl rfl rfl (hts _ tw_12) (hts _ tw_312) (hts _ tw_243) rfl (by decide +kernel) ⟨Nat.le_of_ble_eq_true rfl, Nat.le_of_ble_eq_true rfl⟩) (preS hP hD hK hSD hS hA [13] rfl (by decide)) rfl rfl hl.1 rfl (lv_room (Nat.le_of_ble_eq_true rfl)) dX1_init_41 ⟨Nat.le_of_ble_eq_true rfl, Nat.le_of_ble_eq_true rfl⟩) hP hD hS hA [13] [0, 1, 2, 3, 4, 5, 6, 7, 8, 9, 10, 11, 12] rfl rfl (by decide) (by decide) (fun u_87 H locs hw_88 hP hD hS => ?_)
  obtain ⟨q_89, q_90, q_91, q_92, q_93, q_94, q_95, q_96, q_97, q_98⟩ := u_87
  have hP : va_P D classes [(h, .inr (1, [.ref q_1, .int 0, .int 0])), (q_1, .inl (cy 4, 9, .inr (.inr (.inr (.inr g_85))))), (q_2, .inr (8, [.ref pt, .int 0, .ref q_5, .ref q_6, .ref q_7, .ref q_8, .ref q_9, .ref q_10, .ref q_11, .ref q_12, .ref q_13, .ref q_14, .int 0])), (q_5, .inl (cy 1, 36, .inl (fun _ => 0))), (q_6, .inl (cy 1, 6, .inl (fun _ => 0))), (q_7, .inl (cy 1, 6, .inl (fun _ => 0))), (q_8, .inl (cy 1, 6, .inl (fun _ => 0))), (q_9, .inl (cy 1, 6, .inl (fun _ => 0))), (q_10, .inl (cy 1, 8, .inl (fun _ => 0))), (q_12, .inl (cy 1, 8, .inl (fun _ => 0))), (q_13, .inl (cy 1, 8, .inl (fun _ => 0))), (q_14, .inl (cy 1, 6, .inl (fun _ => 0))), (q_11, .inl (cy 1, 8, .inl (fun _ => (-1)))), (q_86, .inr (8, [.ref pt, .int 0, .ref q_89, .ref q_90, .ref q_91, .ref q_92, .ref q_93, .ref q_94, .ref q_95, .ref q_96, .ref q_97, .ref q_98, .int 0])), (q_89, .inl (cy 1, 36, .inl (fun _ => 0))), (q_90, .inl (cy 1, 6, .inl (fun _ => 0))), (q_91, .inl (cy 1, 6, .inl (fun _ => 0))), (q_92, .inl (cy 1, 6, .inl (fun _ => 0))), (q_93, .inl (cy 1, 6, .inl (fun _ => 0))), (q_94, .inl (cy 1, 8, .inl (fun _ => 0))), (q_96, .inl (cy 1, 8, .inl (fun _ => 0))), (q_97, .inl (cy 1, 8, .inl (fun _ => 0))), (q_98, .inl (cy 1, 6, .inl (fun _ => 0))), (q_95, .inl (cy 1, 8, .inl (fun _ => (-1))))] H := hP
  have hD : va_D A [(h, .inr (1, [.ref q_1, .int 0, .int 0])), (q_1, .inl (cy 4, 9, .inr (.inr (.inr (.inr g_85))))), (q_2, .inr (8, [.ref pt, .int 0, .ref q_5, .ref q_6, .ref q_7, .ref q_8, .ref q_9, .ref q_10, .ref q_11, .ref q_12, .ref q_13, .ref q_14, .int 0])), (q_5, .inl (cy 1, 36, .inl (fun _ => 0))), (q_6, .inl (cy 1, 6, .inl (fun _ => 0))), (q_7, .inl (cy 1, 6, .inl (fun _ => 0))), (q_8, .inl (cy 1, 6, .inl (fun _ => 0))), (q_9, .inl (cy 1, 6, .inl (fun _ => 0))), (q_10, .inl (cy 1, 8, .inl (fun _ => 0))), (q_12, .inl (cy 1, 8, .inl (fun _ => 0))), (q_13, .inl (cy 1, 8, .inl (fun _ => 0))), (q_14, .inl (cy 1, 6, .inl (fun _ => 0))), (q_11, .inl (cy 1, 8, .inl (fun _ => (-1)))), (q_86, .inr (8, [.ref pt, .int 0, .ref q_89, .ref q_90, .ref q_91, .ref q_92, .ref q_93, .ref q_94, .ref q_95, .ref q_96, .ref q_97, .ref q_98, .int 0])), (q_89, .inl (cy 1, 36, .inl (fun _ => 0))), (q_90, .inl (cy 1, 6, .inl (fun _ => 0))), (q_91, .inl (cy 1, 6, .inl (fun _ => 0))), (q_92, .inl (cy 1, 6, .inl (fun _ => 0))), (q_93, .inl (cy 1, 6, .inl (fun _ => 0))), (q_94, .inl (cy 1, 8, .inl (fun _ => 0))), (q_96, .inl (cy 1, 8, .inl (fun _ => 0))), (q_97, .inl (cy 1, 8, .inl (fun _ => 0))), (q_98, .inl (cy 1, 6, .inl (fun _ => 0))), (q_95, .inl (cy 1, 8, .inl (fun _ => (-1))))] := hD
  refine W.widen (k := 78) (n := 786) (Nat.le_of_ble_eq_true rfl) (Nat.le_of_ble_eq_true rfl) ?_
  refine va_astq (r := (RX8, TX8, 13)) hx hb hK hP hD hS 1 4 13 8 rfl rfl rfl rfl (vp_in_nI (n := 6) (N := 9) (by decide) (by decide)) dX1_init_44 (fun H locs hP hD hS => ?_)
  obtain ⟨g_99, eg_99⟩ : ∃ g, g = va_up g_85 (Int32.toNatClampNeg 6) (some q_86) := ⟨_, rfl⟩
  have hP : va_P D classes [(h, .inr (1, [.ref q_1, .int 0, .int 0])), (q_1, .inl (cy 4, 9, .inr (.inr (.inr (.inr g_99))))), (q_2, .inr (8, [.ref pt, .int 0, .ref q_5, .ref q_6, .ref q_7, .ref q_8, .ref q_9, .ref q_10, .ref q_11, .ref q_12, .ref q_13, .ref q_14, .int 0])), (q_5, .inl (cy 1, 36, .inl (fun _ => 0))), (q_6, .inl (cy 1, 6, .inl (fun _ => 0))), (q_7, .inl (cy 1, 6, .inl (fun _ => 0))), (q_8, .inl (cy 1, 6, .inl (fun _ => 0))), (q_9, .inl (cy 1, 6, .inl (fun _ => 0))), (q_10, .inl (cy 1, 8, .inl (fun _ => 0))), (q_12, .inl (cy 1, 8, .inl (fun _ => 0))), (q_13, .inl (cy 1, 8, .inl (fun _ => 0))), (q_14, .inl (cy 1, 6, .inl (fun _ => 0))), (q_11, .inl (cy 1, 8, .inl (fun _ => (-1)))), (q_86, .inr (8, [.ref pt, .int 0, .ref q_89, .ref q_90, .ref q_91, .ref q_92, .ref q_93, .ref q_94, .ref q_95, .ref q_96, .ref q_97, .ref q_98, .int 0])), (q_89, .inl (cy 1, 36, .inl (fun _ => 0))), (q_90, .inl (cy 1, 6, .inl (fun _ => 0))), (q_91, .inl (cy 1, 6, .inl (fun _ => 0))), (q_92, .inl (cy 1, 6, .inl (fun _ => 0))), (q_93, .inl (cy 1, 6, .inl (fun _ => 0))), (q_94, .inl (cy 1, 8, .inl (fun _ => 0))), (q_96, .inl (cy 1, 8, .inl (fun _ => 0))), (q_97, .inl (cy 1, 8, .inl (fun _ => 0))), (q_98, .inl (cy 1, 6, .inl (fun _ => 0))), (q_95, .inl (cy 1, 8, .inl (fun _ => (-1))))] H := by rw [eg_99]; exact hP
  have hD : va_D A [(h, .inr (1, [.ref q_1, .int 0, .int 0])), (q_1, .inl (cy 4, 9, .inr (.inr (.inr (.inr g_99))))), (q_2, .inr (8, [.ref pt, .int 0, .ref q_5, .ref q_6, .ref q_7, .ref q_8, .ref q_9, .ref q_10, .ref q_11, .ref q_12, .ref q_13, .ref q_14, .int 0])), (q_5, .inl (cy 1, 36, .inl (fun _ => 0))), (q_6, .inl (cy 1, 6, .inl (fun _ => 0))), (q_7, .inl (cy 1, 6, .inl (fun _ => 0))), (q_8, .inl (cy 1, 6, .inl (fun _ => 0))), (q_9, .inl (cy 1, 6, .inl (fun _ => 0))), (q_10, .inl (cy 1, 8, .inl (fun _ => 0))), (q_12, .inl (cy 1, 8, .inl (fun _ => 0))), (q_13, .inl (cy 1, 8, .inl (fun _ => 0))), (q_14, .inl (cy 1, 6, .inl (fun _ => 0))), (q_11, .inl (cy 1, 8, .inl (fun _ => (-1)))), (q_86, .inr (8, [.ref pt, .int 0, .ref q_89, .ref q_90, .ref q_91, .ref q_92, .ref q_93, .ref q_94, .ref q_95, .ref q_96, .ref q_97, .ref q_98, .int 0])), (q_89, .inl (cy 1, 36, .inl (fun _ => 0))), (q_90, .inl (cy 1, 6, .inl (fun _ => 0))), (q_91, .inl (cy 1, 6, .inl (fun _ => 0))), (q_92, .inl (cy 1, 6, .inl (fun _ => 0))), (q_93, .inl (cy 1, 6, .inl (fun _ => 0))), (q_94, .inl (cy 1, 8, .inl (fun _ => 0))), (q_96, .inl (cy 1, 8, .inl (fun _ => 0))), (q_97, .inl (cy 1, 8, .inl (fun _ => 0))), (q_98, .inl (cy 1, 6, .inl (fun _ => 0))), (q_95, .inl (cy 1, 8, .inl (fun _ => (-1))))] := by rw [eg_99]; exact hD
  have hP : va_P D classes [(h, .inr (1, [.ref q_1, .int 0, .int 0])), (q_1, .inl (cy 4, 9, .inr (.inr (.inr (.inr g_99))))), (q_2, .inr (8, [.ref pt, .int 0, .ref q_5, .ref q_6, .ref q_7, .ref q_8, .ref q_9, .ref q_10, .ref q_11, .ref q_12, .ref q_13, .ref q_14, .int 0])), (q_5, .inl (cy 1, 36, .inl (fun _ => 0))), (q_6, .inl (cy 1, 6, .inl (fun _ => 0))), (q_7, .inl (cy 1, 6, .inl (fun _ => 0))), (q_8, .inl (cy 1, 6, .inl (fun _ => 0))), (q_9, .inl (cy 1, 6, .inl (fun _ => 0))), (q_10, .inl (cy 1, 8, .inl (fun _ => 0))), (q_12, .inl (cy 1, 8, .inl (fun _ => 0))), (q_13, .inl (cy 1, 8, .inl (fun _ => 0))), (q_14, .inl (cy 1, 6, .inl (fun _ => 0))), (q_11, .inl (cy 1, 8, .inl (fun _ => (-1))))] H := subP hP [0, 1, 2, 3, 4, 5, 6, 7, 8, 9, 10, 11, 12] rfl
  have hD : va_D A [(h, .inr (1, [.ref q_1, .int 0, .int 0])), (q_1, .inl (cy 4, 9, .inr (.inr (.inr (.inr g_99))))), (q_2, .inr (8, [.ref pt, .int 0, .ref q_5, .ref q_6, .ref q_7, .ref q_8, .ref q_9, .ref q_10, .ref q_11, .ref q_12, .ref q_13, .ref q_14, .int 0])), (q_5, .inl (cy 1, 36, .inl (fun _ => 0))), (q_6, .inl (cy 1, 6, .inl (fun _ => 0))), (q_7, .inl (cy 1, 6, .inl (fun _ => 0))), (q_8, .inl (cy 1, 6, .inl (fun _ => 0))), (q_9, .inl (cy 1, 6, .inl (fun _ => 0))), (q_10, .inl (cy 1, 8, .inl (fun _ => 0))), (q_12, .inl (cy 1, 8, .inl (fun _ => 0))), (q_13, .inl (cy 1, 8, .inl (fun _ => 0))), (q_14, .inl (cy 1, 6, .inl (fun _ => 0))), (q_11, .inl (cy 1, 8, .inl (fun _ => (-1))))] := hD.sub [0, 1, 2, 3, 4, 5, 6, 7, 8, 9, 10, 11, 12] (by decide) rfl
  refine lv_iinc (v := 7) (lv' := [(2, .int 7), (0, .ref h), (1, .ref pt)]) hx hb dX1_init_45 hl (k := 0) rfl (by decide) (by decide) rfl (fun ls hl => ?_)
  refine lv_goto (tgt := 25) hx hb dX1_init_48 (by decide) ?_
  refine lv_iload_n hx hb dX1_init_25 rfl (lv_at hl 0 rfl) ?_
  refine lv_bipush (v := 9) hx hb dX1_init_26 (by decide) ?_
  refine lv_icmp_ge (tgt := 51) hx hb dX1_init_28 (by decide) (fun c9 => absurd c9 (by decide)) (fun _ => ?_)
  refine lv_aload_n hx hb dX1_init_31 rfl (lv_at hl 1 rfl) ?_
  refine va_get (D := D) (ci := 1) (v := .ref q_1) (C := RX1) (T := TX1) (N := 3) hx hb hts inX1 hown hK hP 0 rfl rfl 0 (by decide) (hts _ tw_313) (fun _ h9 => h9) rfl dX1_init_32 ?_
  refine lv_iload_n hx hb dX1_init_35 rfl (lv_at hl 0 rfl) ?_
  refine va_new (ci := 8) (fs := [.null, .int 0, .null, .null, .null, .null, .null, .null, .null, .null, .null, .null, .int 0]) (C := RX8) (T := TX8) (N := 13) hx hb hts inX8 tyX8 tyX8_ok hown (hts _ tw_310) (hts _ tw_241) (hts _ tw_12) hK hP hD hS hA rfl (dfX8) (Nat.le_of_ble_eq_true rfl) (Nat.le_of_ble_eq_true rfl) dX1_init_36 (fun q_100 H hP hD hS => ?_)
  have hP : va_P D classes [(h, .inr (1, [.ref q_1, .int 0, .int 0])), (q_1, .inl (cy 4, 9, .inr (.inr (.inr (.inr g_99))))), (q_2, .inr (8, [.ref pt, .int 0, .ref q_5, .ref q_6, .ref q_7, .ref q_8, .ref q_9, .ref q_10, .ref q_11, .ref q_12, .ref q_13, .ref q_14, .int 0])), (q_5, .inl (cy 1, 36, .inl (fun _ => 0))), (q_6, .inl (cy 1, 6, .inl (fun _ => 0))), (q_7, .inl (cy 1, 6, .inl (fun _ => 0))), (q_8, .inl (cy 1, 6, .inl (fun _ => 0))), (q_9, .inl (cy 1, 6, .inl (fun _ => 0))), (q_10, .inl (cy 1, 8, .inl (fun _ => 0))), (q_12, .inl (cy 1, 8, .inl (fun _ => 0))), (q_13, .inl (cy 1, 8, .inl (fun _ => 0))), (q_14, .inl (cy 1, 6, .inl (fun _ => 0))), (q_11, .inl (cy 1, 8, .inl (fun _ => (-1)))), (q_100, .inr (8, [.null, .int 0, .null, .null, .null, .null, .null, .null, .null, .null, .null, .null, .int 0]))] H := hP
  have hD : va_D A [(h, .inr (1, [.ref q_1, .int 0, .int 0])), (q_1, .inl (cy 4, 9, .inr (.inr (.inr (.inr g_99))))), (q_2, .inr (8, [.ref pt, .int 0, .ref q_5, .ref q_6, .ref q_7, .ref q_8, .ref q_9, .ref q_10, .ref q_11, .ref q_12, .ref q_13, .ref q_14, .int 0])), (q_5, .inl (cy 1, 36, .inl (fun _ => 0))), (q_6, .inl (cy 1, 6, .inl (fun _ => 0))), (q_7, .inl (cy 1, 6, .inl (fun _ => 0))), (q_8, .inl (cy 1, 6, .inl (fun _ => 0))), (q_9, .inl (cy 1, 6, .inl (fun _ => 0))), (q_10, .inl (cy 1, 8, .inl (fun _ => 0))), (q_12, .inl (cy 1, 8, .inl (fun _ => 0))), (q_13, .inl (cy 1, 8, .inl (fun _ => 0))), (q_14, .inl (cy 1, 6, .inl (fun _ => 0))), (q_11, .inl (cy 1, 8, .inl (fun _ => (-1)))), (q_100, .inr (8, [.null, .int 0, .null, .null, .null, .null, .null, .null, .null, .null, .null, .null, .int 0]))] := hD
  refine W.widen (k := 79) (n := 799) (Nat.le_of_ble_eq_true rfl) (Nat.le_of_ble_eq_true rfl) ?_
  refine lv_dup hx hb dX1_init_39 rfl ?_
  refine lv_aload_n hx hb dX1_init_40 rfl (lv_at hl 2 rfl) ?_
  refine endv (wr := [(h, .inr (1, [.ref q_1, .int 0, .int 0])), (q_1, .inl (cy 4, 9, .inr (.inr (.inr (.inr g_99))))), (q_2, .inr (8, [.ref pt, .int 0, .ref q_5, .ref q_6, .ref q_7, .ref q_8, .ref q_9, .ref q_10, .ref q_11, .ref q_12, .ref q_13, .ref q_14, .int 0])), (q_5, .inl (cy 1, 36, .inl (fun _ => 0))), (q_6, .inl (cy 1, 6, .inl (fun _ => 0))), (q_7, .inl (cy 1, 6, .inl (fun _ => 0))), (q_8, .inl (cy 1, 6, .inl (fun _ => 0))), (q_9, .inl (cy 1, 6, .inl (fun _ => 0))), (q_10, .inl (cy 1, 8, .inl (fun _ => 0))), (q_12, .inl (cy 1, 8, .inl (fun _ => 0))), (q_13, .inl (cy 1, 8, .inl (fun _ => 0))), (q_14, .inl (cy 1, 6, .inl (fun _ => 0))), (q_11, .inl (cy 1, 8, .inl (fun _ => (-1))))]) (va_runI (As := [.ref pt]) (rest := [.ref q_100, .int 7, .ref q_1]) ⟨hx, hb, hml, hown, hts⟩ (c_World_init l D cy z H.size q_100 pt) (cwI 1 hts (gC tw_244) rfl rfl rfl (hts _ tw_12) (hts _ tw_312) (hts _ tw_243) rfl (by decide +kernel) ⟨Nat.le_of_ble_eq_true rfl, Nat.le_of_ble_eq_true rfl⟩) (preS hP hD hK hSD hS hA [13] rfl (by decide)) rfl rfl hl.1 rfl (lv_room (Nat.le_of_ble_eq_true rfl)) dX1_init_41 ⟨Nat.le_of_ble_eq_true rfl, Nat.le_of_ble_eq_true rfl⟩) hP hD hS hA [13] [0, 1, 2, 3, 4, 5, 6, 7, 8, 9, 10, 11, 12] rfl rfl (by decide) (by decide) (fun u_101 H locs hw_102 hP hD hS => ?_)
  obtain ⟨q_103, q_104, q_105, q_106, q_107, q_108, q_109, q_110, q_111, q_112⟩ := u_101
  have hP : va_P D classes [(h, .inr (1, [.ref q_1, .int 0, .int 0])), (q_1, .inl (cy 4, 9, .inr (.inr (.inr (.inr g_99))))), (q_2, .inr (8, [.ref pt, .int 0, .ref q_5, .ref q_6, .ref q_7, .ref q_8, .ref q_9, .ref q_10, .ref q_11, .ref q_12, .ref q_13, .ref q_14, .int 0])), (q_5, .inl (cy 1, 36, .inl (fun _ => 0))), (q_6, .inl (cy 1, 6, .inl (fun _ => 0))), (q_7, .inl (cy 1, 6, .inl (fun _ => 0))), (q_8, .inl (cy 1, 6, .inl (fun _ => 0))), (q_9, .inl (cy 1, 6, .inl (fun _ => 0))), (q_10, .inl (cy 1, 8, .inl (fun _ => 0))), (q_12, .inl (cy 1, 8, .inl (fun _ => 0))), (q_13, .inl (cy 1, 8, .inl (fun _ => 0))), (q_14, .inl (cy 1, 6, .inl (fun _ => 0))), (q_11, .inl (cy 1, 8, .inl (fun _ => (-1)))), (q_100, .inr (8, [.ref pt, .int 0, .ref q_103, .ref q_104, .ref q_105, .ref q_106, .ref q_107, .ref q_108, .ref q_109, .ref q_110, .ref q_111, .ref q_112, .int 0])), (q_103, .inl (cy 1, 36, .inl (fun _ => 0))), (q_104, .inl (cy 1, 6, .inl (fun _ => 0))), (q_105, .inl (cy 1, 6, .inl (fun _ => 0))), (q_106, .inl (cy 1, 6, .inl (fun _ => 0))), (q_107, .inl (cy 1, 6, .inl (fun _ => 0))), (q_108, .inl (cy 1, 8, .inl (fun _ => 0))), (q_110, .inl (cy 1, 8, .inl (fun _ => 0))), (q_111, .inl (cy 1, 8, .inl (fun _ => 0))), (q_112, .inl (cy 1, 6, .inl (fun _ => 0))), (q_109, .inl (cy 1, 8, .inl (fun _ => (-1))))] H := hP
  have hD : va_D A [(h, .inr (1, [.ref q_1, .int 0, .int 0])), (q_1, .inl (cy 4, 9, .inr (.inr (.inr (.inr g_99))))), (q_2, .inr (8, [.ref pt, .int 0, .ref q_5, .ref q_6, .ref q_7, .ref q_8, .ref q_9, .ref q_10, .ref q_11, .ref q_12, .ref q_13, .ref q_14, .int 0])), (q_5, .inl (cy 1, 36, .inl (fun _ => 0))), (q_6, .inl (cy 1, 6, .inl (fun _ => 0))), (q_7, .inl (cy 1, 6, .inl (fun _ => 0))), (q_8, .inl (cy 1, 6, .inl (fun _ => 0))), (q_9, .inl (cy 1, 6, .inl (fun _ => 0))), (q_10, .inl (cy 1, 8, .inl (fun _ => 0))), (q_12, .inl (cy 1, 8, .inl (fun _ => 0))), (q_13, .inl (cy 1, 8, .inl (fun _ => 0))), (q_14, .inl (cy 1, 6, .inl (fun _ => 0))), (q_11, .inl (cy 1, 8, .inl (fun _ => (-1)))), (q_100, .inr (8, [.ref pt, .int 0, .ref q_103, .ref q_104, .ref q_105, .ref q_106, .ref q_107, .ref q_108, .ref q_109, .ref q_110, .ref q_111, .ref q_112, .int 0])), (q_103, .inl (cy 1, 36, .inl (fun _ => 0))), (q_104, .inl (cy 1, 6, .inl (fun _ => 0))), (q_105, .inl (cy 1, 6, .inl (fun _ => 0))), (q_106, .inl (cy 1, 6, .inl (fun _ => 0))), (q_107, .inl (cy 1, 6, .inl (fun _ => 0))), (q_108, .inl (cy 1, 8, .inl (fun _ => 0))), (q_110, .inl (cy 1, 8, .inl (fun _ => 0))), (q_111, .inl (cy 1, 8, .inl (fun _ => 0))), (q_112, .inl (cy 1, 6, .inl (fun _ => 0))), (q_109, .inl (cy 1, 8, .inl (fun _ => (-1))))] := hD
  refine W.widen (k := 89) (n := 897) (Nat.le_of_ble_eq_true rfl) (Nat.le_of_ble_eq_true rfl) ?_
  refine va_astq (r := (RX8, TX8, 13)) hx hb hK hP hD hS 1 4 13 8 rfl rfl rfl rfl (vp_in_nI (n := 7) (N := 9) (by decide) (by decide)) dX1_init_44 (fun H locs hP hD hS => ?_)
  obtain ⟨g_113, eg_113⟩ : ∃ g, g = va_up g_99 (Int32.toNatClampNeg 7) (some q_100) := ⟨_, rfl⟩
  have hP : va_P D classes [(h, .inr (1, [.ref q_1, .int 0, .int 0])), (q_1, .inl (cy 4, 9, .inr (.inr (.inr (.inr g_113))))), (q_2, .inr (8, [.ref pt, .int 0, .ref q_5, .ref q_6, .ref q_7, .ref q_8, .ref q_9, .ref q_10, .ref q_11, .ref q_12, .ref q_13, .ref q_14, .int 0])), (q_5, .inl (cy 1, 36, .inl (fun _ => 0))), (q_6, .inl (cy 1, 6, .inl (fun _ => 0))), (q_7, .inl (cy 1, 6, .inl (fun _ => 0))), (q_8, .inl (cy 1, 6, .inl (fun _ => 0))), (q_9, .inl (cy 1, 6, .inl (fun _ => 0))), (q_10, .inl (cy 1, 8, .inl (fun _ => 0))), (q_12, .inl (cy 1, 8, .inl (fun _ => 0))), (q_13, .inl (cy 1, 8, .inl (fun _ => 0))), (q_14, .inl (cy 1, 6, .inl (fun _ => 0))), (q_11, .inl (cy 1, 8, .inl (fun _ => (-1)))), (q_100, .inr (8, [.ref pt, .int 0, .ref q_103, .ref q_104, .ref q_105, .ref q_106, .ref q_107, .ref q_108, .ref q_109, .ref q_110, .ref q_111, .ref q_112, .int 0])), (q_103, .inl (cy 1, 36, .inl (fun _ => 0))), (q_104, .inl (cy 1, 6, .inl (fun _ => 0))), (q_105, .inl (cy 1, 6, .inl (fun _ => 0))), (q_106, .inl (cy 1, 6, .inl (fun _ => 0))), (q_107, .inl (cy 1, 6, .inl (fun _ => 0))), (q_108, .inl (cy 1, 8, .inl (fun _ => 0))), (q_110, .inl (cy 1, 8, .inl (fun _ => 0))), (q_111, .inl (cy 1, 8, .inl (fun _ => 0))), (q_112, .inl (cy 1, 6, .inl (fun _ => 0))), (q_109, .inl (cy 1, 8, .inl (fun _ => (-1))))] H := by rw [eg_113]; exact hP
  have hD : va_D A [(h, .inr (1, [.ref q_1, .int 0, .int 0])), (q_1, .inl (cy 4, 9, .inr (.inr (.inr (.inr g_113))))), (q_2, .inr (8, [.ref pt, .int 0, .ref q_5, .ref q_6, .ref q_7, .ref q_8, .ref q_9, .ref q_10, .ref q_11, .ref q_12, .ref q_13, .ref q_14, .int 0])), (q_5, .inl (cy 1, 36, .inl (fun _ => 0))), (q_6, .inl (cy 1, 6, .inl (fun _ => 0))), (q_7, .inl (cy 1, 6, .inl (fun _ => 0))), (q_8, .inl (cy 1, 6, .inl (fun _ => 0))), (q_9, .inl (cy 1, 6, .inl (fun _ => 0))), (q_10, .inl (cy 1, 8, .inl (fun _ => 0))), (q_12, .inl (cy 1, 8, .inl (fun _ => 0))), (q_13, .inl (cy 1, 8, .inl (fun _ => 0))), (q_14, .inl (cy 1, 6, .inl (fun _ => 0))), (q_11, .inl (cy 1, 8, .inl (fun _ => (-1)))), (q_100, .inr (8, [.ref pt, .int 0, .ref q_103, .ref q_104, .ref q_105, .ref q_106, .ref q_107, .ref q_108, .ref q_109, .ref q_110, .ref q_111, .ref q_112, .int 0])), (q_103, .inl (cy 1, 36, .inl (fun _ => 0))), (q_104, .inl (cy 1, 6, .inl (fun _ => 0))), (q_105, .inl (cy 1, 6, .inl (fun _ => 0))), (q_106, .inl (cy 1, 6, .inl (fun _ => 0))), (q_107, .inl (cy 1, 6, .inl (fun _ => 0))), (q_108, .inl (cy 1, 8, .inl (fun _ => 0))), (q_110, .inl (cy 1, 8, .inl (fun _ => 0))), (q_111, .inl (cy 1, 8, .inl (fun _ => 0))), (q_112, .inl (cy 1, 6, .inl (fun _ => 0))), (q_109, .inl (cy 1, 8, .inl (fun _ => (-1))))] := by rw [eg_113]; exact hD
  have hP : va_P D classes [(h, .inr (1, [.ref q_1, .int 0, .int 0])), (q_1, .inl (cy 4, 9, .inr (.inr (.inr (.inr g_113))))), (q_2, .inr (8, [.ref pt, .int 0, .ref q_5, .ref q_6, .ref q_7, .ref q_8, .ref q_9, .ref q_10, .ref q_11, .ref q_12, .ref q_13, .ref q_14, .int 0])), (q_5, .inl (cy 1, 36, .inl (fun _ => 0))), (q_6, .inl (cy 1, 6, .inl (fun _ => 0))), (q_7, .inl (cy 1, 6, .inl (fun _ => 0))), (q_8, .inl (cy 1, 6, .inl (fun _ => 0))), (q_9, .inl (cy 1, 6, .inl (fun _ => 0))), (q_10, .inl (cy 1, 8, .inl (fun _ => 0))), (q_12, .inl (cy 1, 8, .inl (fun _ => 0))), (q_13, .inl (cy 1, 8, .inl (fun _ => 0))), (q_14, .inl (cy 1, 6, .inl (fun _ => 0))), (q_11, .inl (cy 1, 8, .inl (fun _ => (-1))))] H := subP hP [0, 1, 2, 3, 4, 5, 6, 7, 8, 9, 10, 11, 12] rfl
  have hD : va_D A [(h, .inr (1, [.ref q_1, .int 0, .int 0])), (q_1, .inl (cy 4, 9, .inr (.inr (.inr (.inr g_113))))), (q_2, .inr (8, [.ref pt, .int 0, .ref q_5, .ref q_6, .ref q_7, .ref q_8, .ref q_9, .ref q_10, .ref q_11, .ref q_12, .ref q_13, .ref q_14, .int 0])), (q_5, .inl (cy 1, 36, .inl (fun _ => 0))), (q_6, .inl (cy 1, 6, .inl (fun _ => 0))), (q_7, .inl (cy 1, 6, .inl (fun _ => 0))), (q_8, .inl (cy 1, 6, .inl (fun _ => 0))), (q_9, .inl (cy 1, 6, .inl (fun _ => 0))), (q_10, .inl (cy 1, 8, .inl (fun _ => 0))), (q_12, .inl (cy 1, 8, .inl (fun _ => 0))), (q_13, .inl (cy 1, 8, .inl (fun _ => 0))), (q_14, .inl (cy 1, 6, .inl (fun _ => 0))), (q_11, .inl (cy 1, 8, .inl (fun _ => (-1))))] := hD.sub [0, 1, 2, 3, 4, 5, 6, 7, 8, 9, 10, 11, 12] (by decide) rfl
  refine lv_iinc (v := 8) (lv' := [(2, .int 8), (0, .ref h), (1, .ref pt)]) hx hb dX1_init_45 hl (k := 0) rfl (by decide) (by decide) rfl (fun ls hl => ?_)
  refine lv_goto (tgt := 25) hx hb dX1_init_48 (by decide) ?_
  refine lv_iload_n hx hb dX1_init_25 rfl (lv_at hl 0 rfl) ?_
  refine lv_bipush (v := 9) hx hb dX1_init_26 (by decide) ?_
  refine lv_icmp_ge (tgt := 51) hx hb dX1_init_28 (by decide) (fun c9 => absurd c9 (by decide)) (fun _ => ?_)
  refine lv_aload_n hx hb dX1_init_31 rfl (lv_at hl 1 rfl) ?_
  refine va_get (D := D) (ci := 1) (v := .ref q_1) (C := RX1) (T := TX1) (N := 3) hx hb hts inX1 hown hK hP 0 rfl rfl 0 (by decide) (hts _ tw_313) (fun _ h9 => h9) rfl dX1_init_32 ?_
  refine lv_iload_n hx hb dX1_init_35 rfl (lv_at hl 0 rfl) ?_
  refine va_new (ci := 8) (fs := [.null, .int 0, .null, .null, .null, .null, .null, .null, .null, .null, .null, .null, .int 0]) (C := RX8) (T := TX8) (N := 13) hx hb hts inX8 tyX8 tyX8_ok hown (hts _ tw_310) (hts _ tw_241) (hts _ tw_12) hK hP hD hS hA rfl (dfX8) (Nat.le_of_ble_eq_true rfl) (Nat.le_of_ble_eq_true rfl) dX1_init_36 (fun q_114 H hP hD hS => ?_)
  have hP : va_P D classes [(h, .inr (1, [.ref q_1, .int 0, .int 0])), (q_1, .inl (cy 4, 9, .inr (.inr (.inr (.inr g_113))))), (q_2, .inr (8, [.ref pt, .int 0, .ref q_5, .ref q_6, .ref q_7, .ref q_8, .ref q_9, .ref q_10, .ref q_11, .ref q_12, .ref q_13, .ref q_14, .int 0])), (q_5, .inl (cy 1, 36, .inl (fun _ => 0))), (q_6, .inl (cy 1, 6, .inl (fun _ => 0))), (q_7, .inl (cy 1, 6, .inl (fun _ => 0))), (q_8, .inl (cy 1, 6, .inl (fun _ => 0))), (q_9, .inl (cy 1, 6, .inl (fun _ => 0))), (q_10, .inl (cy 1, 8, .inl (fun _ => 0))), (q_12, .inl (cy 1, 8, .inl (fun _ => 0))), (q_13, .inl (cy 1, 8, .inl (fun _ => 0))), (q_14, .inl (cy 1, 6, .inl (fun _ => 0))), (q_11, .inl (cy 1, 8, .inl (fun _ => (-1)))), (q_114, .inr (8, [.null, .int 0, .null, .null, .null, .null, .null, .null, .null, .null, .null, .null, .int 0]))] H := hP
  have hD : va_D A [(h, .inr (1, [.ref q_1, .int 0, .int 0])), (q_1, .inl (cy 4, 9, .inr (.inr (.inr (.inr g_113))))), (q_2, .inr (8, [.ref pt, .int 0, .ref q_5, .ref q_6, .ref q_7, .ref q_8, .ref q_9, .ref q_10, .ref q_11, .ref q_12, .ref q_13, .ref q_14, .int 0])), (q_5, .inl (cy 1, 36, .inl (fun _ => 0))), (q_6, .inl (cy 1, 6, .inl (fun _ => 0))), (q_7, .inl (cy 1, 6, .inl (fun _ => 0))), (q_8, .inl (cy 1, 6, .inl (fun _ => 0))), (q_9, .inl (cy 1, 6, .inl (fun _ => 0))), (q_10, .inl (cy 1, 8, .inl (fun _ => 0))), (q_12, .inl (cy 1, 8, .inl (fun _ => 0))), (q_13, .inl (cy 1, 8, .inl (fun _ => 0))), (q_14, .inl (cy 1, 6, .inl (fun _ => 0))), (q_11, .inl (cy 1, 8, .inl (fun _ => (-1)))), (q_114, .inr (8, [.null, .int 0, .null, .null, .null, .null, .null, .null, .null, .null, .null, .null, .int 0]))] := hD
  refine W.widen (k := 90) (n := 910) (Nat.le_of_ble_eq_true rfl) (Nat.le_of_ble_eq_true rfl) ?_
  refine lv_dup hx hb dX1_init_39 rfl ?_
  refine lv_aload_n hx hb dX1_init_40 rfl (lv_at hl 2 rfl) ?_
  refine endv (wr := [(h, .inr (1, [.ref q_1, .int 0, .int 0])), (q_1, .inl (cy 4, 9, .inr (.inr (.inr (.inr g_113))))), (q_2, .inr (8, [.ref pt, .int 0, .ref q_5, .ref q_6, .ref q_7, .ref q_8, .ref q_9, .ref q_10, .ref q_11, .ref q_12, .ref q_13, .ref q_14, .int 0])), (q_5, .inl (cy 1, 36, .inl (fun _ => 0))), (q_6, .inl (cy 1, 6, .inl (fun _ => 0))), (q_7, .inl (cy 1, 6, .inl (fun _ => 0))), (q_8, .inl (cy 1, 6, .inl (fun _ => 0))), (q_9, .inl (cy 1, 6, .inl (fun _ => 0))), (q_10, .inl (cy 1, 8, .inl (fun _ => 0))), (q_12, .inl (cy 1, 8, .inl (fun _ => 0))), (q_13, .inl (cy 1, 8, .inl (fun _ => 0))), (q_14, .inl (cy 1, 6, .inl (fun _ => 0))), (q_11, .inl (cy 1, 8, .inl (fun _ => (-1))))]) (va_runI (As := [.ref pt]) (rest := [.ref q_114, .int 8, .ref q_1]) ⟨hx, hb, hml, hown, hts⟩ (c_World_init l D cy z H.size q_114 pt) (cwI 1 hts (gC tw_244) rfl rfl rfl (hts _ tw_12) (hts _ tw_312) (hts _ tw_243) rfl (by decide +kernel) ⟨Nat.le_of_ble_eq_true rfl, Nat.le_of_ble_eq_true rfl⟩) (preS hP hD hK hSD hS hA [13] rfl (by decide)) rfl rfl hl.1 rfl (lv_room (Nat.le_of_ble_eq_true rfl)) dX1_init_41 ⟨Nat.le_of_ble_eq_true rfl, Nat.le_of_ble_eq_true rfl⟩) hP hD hS hA [13] [0, 1, 2, 3, 4, 5, 6, 7, 8, 9, 10, 11, 12] rfl rfl (by decide) (by decide) (fun u_115 H locs hw_116 hP hD hS => ?_)
  obtain ⟨q_117, q_118, q_119, q_120, q_121, q_122, q_123, q_124, q_125, q_126⟩ := u_115
  have hP : va_P D classes [(h, .inr (1, [.ref q_1, .int 0, .int 0])), (q_1, .inl (cy 4, 9, .inr (.inr (.inr (.inr g_113))))), (q_2, .inr (8, [.ref pt, .int 0, .ref q_5, .ref q_6, .ref q_7, .ref q_8, .ref q_9, .ref q_10, .ref q_11, .ref q_12, .ref q_13, .ref q_14, .int 0])), (q_5, .inl (cy 1, 36, .inl (fun _ => 0))), (q_6, .inl (cy 1, 6, .inl (fun _ => 0))), (q_7, .inl (cy 1, 6, .inl (fun _ => 0))), (q_8, .inl (cy 1, 6, .inl (fun _ => 0))), (q_9, .inl (cy 1, 6, .inl (fun _ => 0))), (q_10, .inl (cy 1, 8, .inl (fun _ => 0))), (q_12, .inl (cy 1, 8, .inl (fun _ => 0))), (q_13, .inl (cy 1, 8, .inl (fun _ => 0))), (q_14, .inl (cy 1, 6, .inl (fun _ => 0))), (q_11, .inl (cy 1, 8, .inl (fun _ => (-1)))), (q_114, .inr (8, [.ref pt, .int 0, .ref q_117, .ref q_118, .ref q_119, .ref q_120, .ref q_121, .ref q_122, .ref q_123, .ref q_124, .ref q_125, .ref q_126, .int 0])), (q_117, .inl (cy 1, 36, .inl (fun _ => 0))), (q_118, .inl (cy 1, 6, .inl (fun _ => 0))), (q_119, .inl (cy 1, 6, .inl (fun _ => 0))), (q_120, .inl (cy 1, 6, .inl (fun _ => 0))), (q_121, .inl (cy 1, 6, .inl (fun _ => 0))), (q_122, .inl (cy 1, 8, .inl (fun _ => 0))), (q_124, .inl (cy 1, 8, .inl (fun _ => 0))), (q_125, .inl (cy 1, 8, .inl (fun _ => 0))), (q_126, .inl (cy 1, 6, .inl (fun _ => 0))), (q_123, .inl (cy 1, 8, .inl (fun _ => (-1))))] H := hP
  have hD : va_D A [(h, .inr (1, [.ref q_1, .int 0, .int 0])), (q_1, .inl (cy 4, 9, .inr (.inr (.inr (.inr g_113))))), (q_2, .inr (8, [.ref pt, .int 0, .ref q_5, .ref q_6, .ref q_7, .ref q_8, .ref q_9, .ref q_10, .ref q_11, .ref q_12, .ref q_13, .ref q_14, .int 0])), (q_5, .inl (cy 1, 36, .inl (fun _ => 0))), (q_6, .inl (cy 1, 6, .inl (fun _ => 0))), (q_7, .inl (cy 1, 6, .inl (fun _ => 0))), (q_8, .inl (cy 1, 6, .inl (fun _ => 0))), (q_9, .inl (cy 1, 6, .inl (fun _ => 0))), (q_10, .inl (cy 1, 8, .inl (fun _ => 0))), (q_12, .inl (cy 1, 8, .inl (fun _ => 0))), (q_13, .inl (cy 1, 8, .inl (fun _ => 0))), (q_14, .inl (cy 1, 6, .inl (fun _ => 0))), (q_11, .inl (cy 1, 8, .inl (fun _ => (-1)))), (q_114, .inr (8, [.ref pt, .int 0, .ref q_117, .ref q_118, .ref q_119, .ref q_120, .ref q_121, .ref q_122, .ref q_123, .ref q_124, .ref q_125, .ref q_126, .int 0])), (q_117, .inl (cy 1, 36, .inl (fun _ => 0))), (q_118, .inl (cy 1, 6, .inl (fun _ => 0))), (q_119, .inl (cy 1, 6, .inl (fun _ => 0))), (q_120, .inl (cy 1, 6, .inl (fun _ => 0))), (q_121, .inl (cy 1, 6, .inl (fun _ => 0))), (q_122, .inl (cy 1, 8, .inl (fun _ => 0))), (q_124, .inl (cy 1, 8, .inl (fun _ => 0))), (q_125, .inl (cy 1, 8, .inl (fun _ => 0))), (q_126, .inl (cy 1, 6, .inl (fun _ => 0))), (q_123, .inl (cy 1, 8, .inl (fun _ => (-1))))] := hD
  refine W.widen (k := 100) (n := 1008) (Nat.le_of_ble_eq_true rfl) (Nat.le_of_ble_eq_true rfl) ?_
  refine va_astq (r := (RX8, TX8, 13)) hx hb hK hP hD hS 1 4 13 8 rfl rfl rfl rfl (vp_in_nI (n := 8) (N := 9) (by decide) (by decide)) dX1_init_44 (fun H locs hP hD hS => ?_)
  obtain ⟨g_127, eg_127⟩ : ∃ g, g = va_up g_113 (Int32.toNatClampNeg 8) (some q_114) := ⟨_, rfl⟩
  have hP : va_P D classes [(h, .inr (1, [.ref q_1, .int 0, .int 0])), (q_1, .inl (cy 4, 9, .inr (.inr (.inr (.inr g_127))))), (q_2, .inr (8, [.ref pt, .int 0, .ref q_5, .ref q_6, .ref q_7, .ref q_8, .ref q_9, .ref q_10, .ref q_11, .ref q_12, .ref q_13, .ref q_14, .int 0])), (q_5, .inl (cy 1, 36, .inl (fun _ => 0))), (q_6, .inl (cy 1, 6, .inl (fun _ => 0))), (q_7, .inl (cy 1, 6, .inl (fun _ => 0))), (q_8, .inl (cy 1, 6, .inl (fun _ => 0))), (q_9, .inl (cy 1, 6, .inl (fun _ => 0))), (q_10, .inl (cy 1, 8, .inl (fun _ => 0))), (q_12, .inl (cy 1, 8, .inl (fun _ => 0))), (q_13, .inl (cy 1, 8, .inl (fun _ => 0))), (q_14, .inl (cy 1, 6, .inl (fun _ => 0))), (q_11, .inl (cy 1, 8, .inl (fun _ => (-1)))), (q_114, .inr (8, [.ref pt, .int 0, .ref q_117, .ref q_118, .ref q_119, .ref q_120, .ref q_121, .ref q_122, .ref q_123, .ref q_124, .ref q_125, .ref q_126, .int 0])), (q_117, .inl (cy 1, 36, .inl (fun _ => 0))), (q_118, .inl (cy 1, 6, .inl (fun _ => 0))), (q_119, .inl (cy 1, 6, .inl (fun _ => 0))), (q_120, .inl (cy 1, 6, .inl (fun _ => 0))), (q_121, .inl (cy 1, 6, .inl (fun _ => 0))), (q_122, .inl (cy 1, 8, .inl (fun _ => 0))), (q_124, .inl (cy 1, 8, .inl (fun _ => 0))), (q_125, .inl (cy 1, 8, .inl (fun _ => 0))), (q_126, .inl (cy 1, 6, .inl (fun _ => 0))), (q_123, .inl (cy 1, 8, .inl (fun _ => (-1))))] H := by rw [eg_127]; exact hP
  have hD : va_D A [(h, .inr (1, [.ref q_1, .int 0, .int 0])), (q_1, .inl (cy 4, 9, .inr (.inr (.inr (.inr g_127))))), (q_2, .inr (8, [.ref pt, .int 0, .ref q_5, .ref q_6, .ref q_7, .ref q_8, .ref q_9, .ref q_10, .ref q_11, .ref q_12, .ref q_13, .ref q_14, .int 0])), (q_5, .inl (cy 1, 36, .inl (fun _ => 0))), (q_6, .inl (cy 1, 6, .inl (fun _ => 0))), (q_7, .inl (cy 1, 6, .inl (fun _ => 0))), (q_8, .inl (cy 1, 6, .inl (fun _ => 0))), (q_9, .inl (cy 1, 6, .inl (fun _ => 0))), (q_10, .inl (cy 1, 8, .inl (fun _ => 0))), (q_12, .inl (cy 1, 8, .inl (fun _ => 0))), (q_13, .inl (cy 1, 8, .inl (fun _ => 0))), (q_14, .inl (cy 1, 6, .inl (fun _ => 0))), (q_11, .inl (cy 1, 8, .inl (fun _ => (-1)))), (q_114, .inr (8, [.ref pt, .int 0, .ref q_117, .ref q_118, .ref q_119, .ref q_120, .ref q_121, .ref q_122, .ref q_123, .ref q_124, .ref q_125, .ref q_126, .int 0])), (q_117, .inl (cy 1, 36, .inl (fun _ => 0))), (q_118, .inl (cy 1, 6, .inl (fun _ => 0))), (q_119, .inl (cy 1, 6, .inl (fun _ => 0))), (q_120, .inl (cy 1, 6, .inl (fun _ => 0))), (q_121, .inl (cy 1, 6, .inl (fun _ => 0))), (q_122, .inl (cy 1, 8, .inl (fun _ => 0))), (q_124, .inl (cy 1, 8, .inl (fun _ => 0))), (q_125, .inl (cy 1, 8, .inl (fun _ => 0))), (q_126, .inl (cy 1, 6, .inl (fun _ => 0))), (q_123, .inl (cy 1, 8, .inl (fun _ => (-1))))] := by rw [eg_127]; exact hD
  have hP : va_P D classes [(h, .inr (1, [.ref q_1, .int 0, .int 0])), (q_1, .inl (cy 4, 9, .inr (.inr (.inr (.inr g_127))))), (q_2, .inr (8, [.ref pt, .int 0, .ref q_5, .ref q_6, .ref q_7, .ref q_8, .ref q_9, .ref q_10, .ref q_11, .ref q_12, .ref q_13, .ref q_14, .int 0])), (q_5, .inl (cy 1, 36, .inl (fun _ => 0))), (q_6, .inl (cy 1, 6, .inl (fun _ => 0))), (q_7, .inl (cy 1, 6, .inl (fun _ => 0))), (q_8, .inl (cy 1, 6, .inl (fun _ => 0))), (q_9, .inl (cy 1, 6, .inl (fun _ => 0))), (q_10, .inl (cy 1, 8, .inl (fun _ => 0))), (q_12, .inl (cy 1, 8, .inl (fun _ => 0))), (q_13, .inl (cy 1, 8, .inl (fun _ => 0))), (q_14, .inl (cy 1, 6, .inl (fun _ => 0))), (q_11, .inl (cy 1, 8, .inl (fun _ => (-1))))] H := subP hP [0, 1, 2, 3, 4, 5, 6, 7, 8, 9, 10, 11, 12] rfl
  have hD : va_D A [(h, .inr (1, [.ref q_1, .int 0, .int 0])), (q_1, .inl (cy 4, 9, .inr (.inr (.inr (.inr g_127))))), (q_2, .inr (8, [.ref pt, .int 0, .ref q_5, .ref q_6, .ref q_7, .ref q_8, .ref q_9, .ref q_10, .ref q_11, .ref q_12, .ref q_13, .ref q_14, .int 0])), (q_5, .inl (cy 1, 36, .inl (fun _ => 0))), (q_6, .inl (cy 1, 6, .inl (fun _ => 0))), (q_7, .inl (cy 1, 6, .inl (fun _ => 0))), (q_8, .inl (cy 1, 6, .inl (fun _ => 0))), (q_9, .inl (cy 1, 6, .inl (fun _ => 0))), (q_10, .inl (cy 1, 8, .inl (fun _ => 0))), (q_12, .inl (cy 1, 8, .inl (fun _ => 0))), (q_13, .inl (cy 1, 8, .inl (fun _ => 0))), (q_14, .inl (cy 1, 6, .inl (fun _ => 0))), (q_11, .inl (cy 1, 8, .inl (fun _ => (-1))))] := hD.sub [0, 1, 2, 3, 4, 5, 6, 7, 8, 9, 10, 11, 12] (by decide) rfl
  refine lv_iinc (v := 9) (lv' := [(2, .int 9), (0, .ref h), (1, .ref pt)]) hx hb dX1_init_45 hl (k := 0) rfl (by decide) (by decide) rfl (fun ls hl => ?_)
  refine lv_goto (tgt := 25) hx hb dX1_init_48 (by decide) ?_
  refine lv_iload_n hx hb dX1_init_25 rfl (lv_at hl 0 rfl) ?_
  refine lv_bipush (v := 9) hx hb dX1_init_26 (by decide) ?_
  refine lv_icmp_ge (tgt := 51) hx hb dX1_init_28 (by decide) (fun _ => ?_) (fun c9 => absurd (by decide) c9)
  have hP9 : va_P D classes [(h, .inr (1, [.ref q_1, .int 0, .int 0])), (q_1, .inl (cy 4, 9, .inr (.inr (.inr (.inr g_127))))), (q_2, .inr (8, [.ref pt, .int 0, .ref q_5, .ref q_6, .ref q_7, .ref q_8, .ref q_9, .ref q_10, .ref q_11, .ref q_12, .ref q_13, .ref q_14, .int 0])), (q_5, .inl (cy 1, 36, .inl (fun _ => 0))), (q_6, .inl (cy 1, 6, .inl (fun _ => 0))), (q_7, .inl (cy 1, 6, .inl (fun _ => 0))), (q_8, .inl (cy 1, 6, .inl (fun _ => 0))), (q_9, .inl (cy 1, 6, .inl (fun _ => 0))), (q_10, .inl (cy 1, 8, .inl (fun _ => 0))), (q_12, .inl (cy 1, 8, .inl (fun _ => 0))), (q_13, .inl (cy 1, 8, .inl (fun _ => 0))), (q_14, .inl (cy 1, 6, .inl (fun _ => 0))), (q_11, .inl (cy 1, 8, .inl (fun _ => (-1))))] H := subP hP [0, 1, 2, 3, 4, 5, 6, 7, 8, 9, 10, 11, 12] rfl
  have hD9 : va_D A [(h, .inr (1, [.ref q_1, .int 0, .int 0])), (q_1, .inl (cy 4, 9, .inr (.inr (.inr (.inr g_127))))), (q_2, .inr (8, [.ref pt, .int 0, .ref q_5, .ref q_6, .ref q_7, .ref q_8, .ref q_9, .ref q_10, .ref q_11, .ref q_12, .ref q_13, .ref q_14, .int 0])), (q_5, .inl (cy 1, 36, .inl (fun _ => 0))), (q_6, .inl (cy 1, 6, .inl (fun _ => 0))), (q_7, .inl (cy 1, 6, .inl (fun _ => 0))), (q_8, .inl (cy 1, 6, .inl (fun _ => 0))), (q_9, .inl (cy 1, 6, .inl (fun _ => 0))), (q_10, .inl (cy 1, 8, .inl (fun _ => 0))), (q_12, .inl (cy 1, 8, .inl (fun _ => 0))), (q_13, .inl (cy 1, 8, .inl (fun _ => 0))), (q_14, .inl (cy 1, 6, .inl (fun _ => 0))), (q_11, .inl (cy 1, 8, .inl (fun _ => (-1))))] := hD.sub [0, 1, 2, 3, 4, 5, 6, 7, 8, 9, 10, 11, 12] (by decide) rfl
  refine W.widen (k := 100) (n := 1008) (Nat.le_of_ble_eq_true rfl) (Nat.le_of_ble_eq_true rfl) ?_
  exact W.vret hx hb hr (fun t ht hW => ⟨⟨((q_1), (q_2), (q_5), (q_6), (q_7), (q_8), (q_9), (q_10), (q_11), (q_12), (q_13), (q_14), (g_127)), rfl, by rw [eg_127, eg_113, eg_99, eg_85, eg_71, eg_57, eg_43, eg_29, eg_15]; rfl, by rw [ht]; exact hP9, va_K.moved hW.alike hK, hD9⟩, hS.F ht⟩) hS.2.2 dX1_init_51
set_option maxHeartbeats 4000000 in
set_option maxRecDepth 100000 in
theorem c_Tape_init (l : Launch) (D : va_G) (cy : Nat → ClassId) (z : Nat → Nat) (sz : Nat) (h : Nat) : Met l yX7_init (Cond.code yX7_init cX7_init 6 none :: gT) ({ frames := 5, cells := 2, slots := 968, locals := 1000 } : Room) (va_Pc [.ref h] (PRE D cy z [(h, .inr (7, [.null, .null, .int 0, .int 0, .int 0, .int 0, .int 0, .int 0, .long 0, .int 0, .int 0, .int 0]))] sz)) (va_Qv (fun (u : (Nat) × (Nat) × (Nat → Int64)) => True) (BB D cy (va_A [(h, .inr (7, [.null, .null, .int 0, .int 0, .int 0, .int 0, .int 0, .int 0, .long 0, .int 0, .int 0, .int 0]))] sz) (fun (u : (Nat) × (Nat) × (Nat → Int64)) => [(h, .inr (7, [.ref u.1, .ref u.2.1, .int 0, .int 0, .int 0, .int 0, .int 0, .int 0, .long 0, .int 0, .int 0, .int 0])), (u.1, .inl (cy 0, 940, .inl (fun _ => 0))), (u.2.1, .inl (cy 2, 28, .inr (.inl u.2.2)))])) (va_A [(h, .inr (7, [.null, .null, .int 0, .int 0, .int 0, .int 0, .int 0, .int 0, .long 0, .int 0, .int 0, .int 0]))] sz)) 2 968 (va_A [(h, .inr (7, [.null, .null, .int 0, .int 0, .int 0, .int 0, .int 0, .int 0, .long 0, .int 0, .int 0, .int 0]))] sz) := by
  refine Met.ofW (cc := cX7_init) (maxL := 6) (ret := none) (by decide) rfl ?_
  intro p e s m args below meth c s₁ B hml hv
  obtain ⟨rfl, hsz, hP, hK, hD0, hSD⟩ := hv
  have hx := B.exec
  have hb := B.bytes
  have hr := B.returns
  have hlocks := B.notSynchronized
  have hts : ∀ w ∈ gT, w.before _ s = true := fun w h => atoms_spec (ws := Cond.code yX7_init cX7_init 6 none :: gT) B.pre w (List.mem_cons_of_mem _ h)
  have hown : s.vm.findClass RX7 = some m.cls := findClass_of_methodNamed B.named
  have hin : meth.name = "<init>" := (name_of_methodNamed B.named B.method).1
  subst hsz
  have hD := hD0.self (sz := s.heap.size)
  generalize hAe : va_A [(h, .inr (7, [.null, .null, .int 0, .int 0, .int 0, .int 0, .int 0, .int 0, .long 0, .int 0, .int 0, .int 0]))] s.heap.size = A at hD hSD ⊢
  have hA : ∀ q : Nat, s.heap.size ≤ q → A q := fun q h => by rw [← hAe]; exact Or.inr h
  have hS : va_S A s.heap s.heap [] := va_S.rf
  have hl := lv_entry ([.ref h]) (n := 6) (Nat.le_of_ble_eq_true rfl)
  rw [lg_entry_eq]
  generalize (lg_sl ([.ref h]) ++ List.replicate (6 - (lg_sl ([.ref h])).length) Slot.unset).toArray = ls at hl ⊢
  have hl : lv_has ls 6 [(0, .ref h)] := hl
  refine lv_aload_n hx hb dX7_init_0 rfl (lv_at hl 0 rfl) ?_
  refine W.objInit hx hb hown (hts _ tw_37) (hts _ tw_30) (hts _ tw_31) rfl (by rw [hml]; exact hl.1) rfl dX7_init_1 (Nat.le_of_ble_eq_true rfl) (Nat.le_of_ble_eq_true rfl) ?_
  refine W.eq (g2 := F0 m 4 ls []) rfl ?_
  refine lv_aload_n hx hb dX7_init_4 rfl (lv_at hl 0 rfl) ?_
  refine lv_sipush (v := 940) hx hb dX7_init_5 (by decide) ?_
  refine newaC (atype := .byte) (ty := .byte) (N' := 940) (a0 := (940, .inl (fun _ => 0))) hx hb (hts _ tw_134) rfl (fun C h => by cases h) hK hP hD hS hA 0 rfl (fun _ => rfl) (by decide) (by decide) (by decide) (Nat.le_of_ble_eq_true rfl) (Nat.le_of_ble_eq_true rfl) dX7_init_8 (fun q_1 H hP hD hS => ?_)
  have hP : va_P D classes [(h, .inr (7, [.null, .null, .int 0, .int 0, .int 0, .int 0, .int 0, .int 0, .long 0, .int 0, .int 0, .int 0])), (q_1, .inl (cy 0, 940, .inl (fun _ => 0)))] H := hP
  have hD : va_D A [(h, .inr (7, [.null, .null, .int 0, .int 0, .int 0, .int 0, .int 0, .int 0, .long 0, .int 0, .int 0, .int 0])), (q_1, .inl (cy 0, 940, .inl (fun _ => 0)))] := hD
  refine W.widen (k := 1) (n := 940) (Nat.le_of_ble_eq_true rfl) (Nat.le_of_ble_eq_true rfl) ?_
  refine va_putF (D := D) (ci := 7) (v := .ref q_1) (ty := .array .byte) (C := RX7) (T := TX7) (N := 12) hx hb hts inX7 tyX7 tyX7_ok nmX7 hown hK hP hD hS 0 rfl rfl 0 (by decide) (hts _ tw_87) (fun _ h9 => h9) rfl hin rfl (by decide +kernel) rfl rfl (Nat.le_of_ble_eq_true rfl) dX7_init_10 (fun H locs hP hD hS => ?_)
  have hP : va_P D classes [(h, .inr (7, [.ref q_1, .null, .int 0, .int 0, .int 0, .int 0, .int 0, .int 0, .long 0, .int 0, .int 0, .int 0])), (q_1, .inl (cy 0, 940, .inl (fun _ => 0)))] H := hP
  have hD : va_D A [(h, .inr (7, [.ref q_1, .null, .int 0, .int 0, .int 0, .int 0, .int 0, .int 0, .long 0, .int 0, .int 0, .int 0])), (q_1, .inl (cy 0, 940, .inl (fun _ => 0)))] := hD
  refine lv_aload_n hx hb dX7_init_13 rfl (lv_at hl 0 rfl) ?_
  refine lv_bipush (v := 28) hx hb dX7_init_14 (by decide) ?_
  refine newaC (atype := .long) (ty := .long) (N' := 28) (a0 := (28, .inr (.inl (fun _ => 0)))) hx hb (hts _ tw_135) rfl (fun C h => by cases h) hK hP hD hS hA 2 rfl (fun _ => rfl) (by decide) (by decide) (by decide) (Nat.le_of_ble_eq_true rfl) (Nat.le_of_ble_eq_true rfl) dX7_init_16 (fun q_2 H hP hD hS => ?_)
  have hP : va_P D classes [(h, .inr (7, [.ref q_1, .null, .int 0, .int 0, .int 0, .int 0, .int 0, .int 0, .long 0, .int 0, .int 0, .int 0])), (q_1, .inl (cy 0, 940, .inl (fun _ => 0))), (q_2, .inl (cy 2, 28, .inr (.inl (fun _ => 0))))] H := hP
  have hD : va_D A [(h, .inr (7, [.ref q_1, .null, .int 0, .int 0, .int 0, .int 0, .int 0, .int 0, .long 0, .int 0, .int 0, .int 0])), (q_1, .inl (cy 0, 940, .inl (fun _ => 0))), (q_2, .inl (cy 2, 28, .inr (.inl (fun _ => 0))))] := hD
  refine W.widen (k := 2) (n := 968) (Nat.le_of_ble_eq_true rfl) (Nat.le_of_ble_eq_true rfl) ?_
  refine va_putF (D := D) (ci := 7) (v := .ref q_2) (ty := .array .long) (C := RX7) (T := TX7) (N := 12) hx hb hts inX7 tyX7 tyX7_ok nmX7 hown hK hP hD hS 0 rfl rfl 1 (by decide) (hts _ tw_88) (fun _ h9 => h9) rfl hin rfl (by decide +kernel) rfl rfl (Nat.le_of_ble_eq_true rfl) dX7_init_18 (fun H locs hP hD hS => ?_)
  have hP : va_P D classes [(h, .inr (7, [.ref q_1, .ref q_2, .int 0, .int 0, .int 0, .int 0, .int 0, .int 0, .long 0, .int 0, .int 0, .int 0])), (q_1, .inl (cy 0, 940, .inl (fun _ => 0))), (q_2, .inl (cy 2, 28, .inr (.inl (fun _ => 0))))] H := hP
  have hD : va_D A [(h, .inr (7, [.ref q_1, .ref q_2, .int 0, .int 0, .int 0, .int 0, .int 0, .int 0, .long 0, .int 0, .int 0, .int 0])), (q_1, .inl (cy 0, 940, .inl (fun _ => 0))), (q_2, .inl (cy 2, 28, .inr (.inl (fun _ => 0))))] := hD
  refine lv_aload_n hx hb dX7_init_21 rfl (lv_at hl 0 rfl) ?_
  refine lv_iconst (v := 0) hx hb dX7_init_22 (by decide) ?_
  refine va_put (D := D) (ci := 7) (v := .int 0) (ty := .int) (C := RX7) (T := TX7) (N := 12) hx hb hts inX7 tyX7 tyX7_ok nmX7 hown hK hP hD hS 0 rfl rfl 2 (by decide) (hts _ tw_89) (fun _ h9 => h9) rfl (by decide +kernel) rfl rfl (Nat.le_of_ble_eq_true rfl) dX7_init_23 (fun H locs hP hD hS => ?_)
  have hP : va_P D classes [(h, .inr (7, [.ref q_1, .ref q_2, .int 0, .int 0, .int 0, .int 0, .int 0, .int 0, .long 0, .int 0, .int 0, .int 0])), (q_1, .inl (cy 0, 940, .inl (fun _ => 0))), (q_2, .inl (cy 2, 28, .inr (.inl (fun _ => 0))))] H := hP
  have hD : va_D A [(h, .inr (7, [.ref q_1, .ref q_2, .int 0, .int 0, .int 0, .int 0, .int 0, .int 0, .long 0, .int 0, .int 0, .int 0])), (q_1, .inl (cy 0, 940, .inl (fun _ => 0))), (q_2, .inl (cy 2, 28, .inr (.inl (fun _ => 0))))] := hD
  refine lv_iconst (v := 0) hx hb dX7_init_26 (by decide) ?_
  refine lv_istore_n (lv' := [(1, .int 0), (0, .ref h)]) hx hb dX7_init_27 rfl hl (by decide) rfl (fun ls hl => ?_)
  refine lv_lconst (v := 0) hx hb dX7_init_28 (by decide) ?_
  refine lv_lstore_n (lv' := [(2, .long 0), (1, .int 0), (0, .ref h)]) hx hb dX7_init_29 rfl hl (by decide) rfl (fun ls hl => ?_)
  refine lv_iconst (v := 0) hx hb dX7_init_30 (by decide) ?_
  refine lv_istore (lv' := [(4, .int 0), (2, .long 0), (1, .int 0), (0, .ref h)]) hx hb dX7_init_31 hl (by decide) rfl (fun ls hl => ?_)
  have LP : ∀ (Q : State → Prop), (∀ (gw : Nat → Int64) (H : Heap) (locs : List Loc) (ls : Array Slot), va_P D classes [(h, .inr (7, [.ref q_1, .ref q_2, .int 0, .int 0, .int 0, .int 0, .int 0, .int 0, .long 0, .int 0, .int 0, .int 0])), (q_1, .inl (cy 0, 940, .inl (fun _ => 0))), (q_2, .inl (cy 2, 28, .inr (.inl gw)))] H → va_D A [(h, .inr (7, [.ref q_1, .ref q_2, .int 0, .int 0, .int 0, .int 0, .int 0, .int 0, .long 0, .int 0, .int 0, .int 0])), (q_1, .inl (cy 0, 940, .inl (fun _ => 0))), (q_2, .inl (cy 2, 28, .inr (.inl gw)))] → va_S A s.heap H locs → W p l e (headSpec (Cond.code yX7_init cX7_init 6 none :: gT) ({ frames := 5, cells := 2, slots := 968, locals := 1000 } : Room)).room s m ([.ref h] : List Value).toArray below meth c H locs 2 968 Q (F0 m 98 ls [])) → ∀ (nf i kk : Nat) (wv : Int64) (gw : Nat → Int64) (H : Heap) (locs : List Loc) (ls : Array Slot), i ≤ 160 → 160 + 1 ≤ i + nf → kk ≤ 28 → va_P D classes [(h, .inr (7, [.ref q_1, .ref q_2, .int 0, .int 0, .int 0, .int 0, .int 0, .int 0, .long 0, .int 0, .int 0, .int 0])), (q_1, .inl (cy 0, 940, .inl (fun _ => 0))), (q_2, .inl (cy 2, 28, .inr (.inl gw)))] H → va_D A [(h, .inr (7, [.ref q_1, .ref q_2, .int 0, .int 0, .int 0, .int 0, .int 0, .int 0, .long 0, .int 0, .int 0, .int 0])), (q_1, .inl (cy 0, 940, .inl (fun _ => 0))), (q_2, .inl (cy 2, 28, .inr (.inl gw)))] → va_S A s.heap H locs → lv_has ls 6 [(4, .int (nI i)), (2, .long wv), (1, .int (nI kk)), (0, .ref h)] → W p l e (headSpec (Cond.code yX7_init cX7_init 6 none :: gT) ({ frames := 5, cells := 2, slots := 968, locals := 1000 } : Room)).room s m ([.ref h] : List Value).toArray below meth c H locs 2 968 Q (F0 m 33 ls []) := by
    intro Q kx nf
    induction nf with
    | zero => intro i kk wv gw H locs ls h1 h2; exact absurd h2 (by omega)
    | succ nf ih =>
      intro i kk wv gw H locs ls hi hin hkk hP hD hS hl
      refine lv_iload hx hb dX7_init_33 (lv_at hl 0 rfl) ?_
      refine va_ldcS (q := z 1) hx hb hown hSD.2.2.2.2.2.2.2.2 dX7_init_35 ?_
      refine endi (wr := [(h, .inr (7, [.ref q_1, .ref q_2, .int 0, .int 0, .int 0, .int 0, .int 0, .int 0, .long 0, .int 0, .int 0, .int 0])), (q_1, .inl (cy 0, 940, .inl (fun _ => 0))), (q_2, .inl (cy 2, 28, .inr (.inl gw)))]) (va_runV (As := []) (rest := [.int (nI i)]) ⟨hx, hb, hml, hown, hts⟩ (c_S_length l D cy z H.size) (cwV 0 hts (gV tw_39 tw_40 tw_41 tw_3 tw_42) rfl rfl rfl (by decide +kernel) ⟨Nat.le_of_ble_eq_true rfl, Nat.le_of_ble_eq_true rfl⟩) (preT hP hD hK hSD hS hA [] rfl (by decide)) rfl rfl hl.1 rfl (lv_room (Nat.le_of_ble_eq_true rfl)) dX7_init_37 ⟨Nat.le_of_ble_eq_true rfl, Nat.le_of_ble_eq_true rfl⟩) hP hD hS hA [] [0, 1, 2] rfl rfl (by decide) (by decide) (fun r_4 u_3 H locs hw_4 hP hD hS => ?_)
      have hP : va_P D classes [(h, .inr (7, [.ref q_1, .ref q_2, .int 0, .int 0, .int 0, .int 0, .int 0, .int 0, .long 0, .int 0, .int 0, .int 0])), (q_1, .inl (cy 0, 940, .inl (fun _ => 0))), (q_2, .inl (cy 2, 28, .inr (.inl gw)))] H := hP
      have hD : va_D A [(h, .inr (7, [.ref q_1, .ref q_2, .int 0, .int 0, .int 0, .int 0, .int 0, .int 0, .long 0, .int 0, .int 0, .int 0])), (q_1, .inl (cy 0, 940, .inl (fun _ => 0))), (q_2, .inl (cy 2, 28, .inr (.inl gw)))] := hD
      have hw_4 : r_4 = 160 := hw_4
      subst hw_4
      refine lv_icmp_ge (tgt := 98) hx hb dX7_init_40 (by decide) (fun c9 => kx _ _ _ _ hP hD hS) (fun c9 => ?_)
      have hlt : i < 160 := lpLt rfl (by omega) hi c9
      refine lv_iload_n hx hb dX7_init_43 rfl (lv_at hl 2 rfl) ?_
      refine lv_aload_n hx hb dX7_init_44 rfl (lv_at hl 3 rfl) ?_
      refine va_get (D := D) (ci := 7) (v := .ref q_2) (C := RX7) (T := TX7) (N := 12) hx hb hts inX7 hown hK hP 0 rfl rfl 1 (by decide) (hts _ tw_88) (fun _ h9 => h9) rfl dX7_init_45 ?_
      refine va_alen (v := 28) hx hb hK hP 2 2 rfl rfl rfl dX7_init_48 ?_
      refine lv_icmp_ge (tgt := 98) hx hb dX7_init_49 (by decide) (fun c9 => kx _ _ _ _ hP hD hS) (fun c9 => ?_)
      have hk28 : kk < 28 := lpLt rfl (by omega) hkk c9
      refine va_ldcS (q := z 1) hx hb hown hSD.2.2.2.2.2.2.2.2 dX7_init_52 ?_
      refine lv_iload hx hb dX7_init_54 (lv_at hl 0 rfl) ?_
      refine endi (wr := [(h, .inr (7, [.ref q_1, .ref q_2, .int 0, .int 0, .int 0, .int 0, .int 0, .int 0, .long 0, .int 0, .int 0, .int 0])), (q_1, .inl (cy 0, 940, .inl (fun _ => 0))), (q_2, .inl (cy 2, 28, .inr (.inl gw)))]) (va_runV (As := [.int (nI i)]) (rest := []) ⟨hx, hb, hml, hown, hts⟩ (c_S_charAt l D cy z H.size i hlt) (cwV 1 hts (gV tw_49 tw_50 tw_51 tw_3 tw_52) rfl rfl rfl (by decide +kernel) ⟨Nat.le_of_ble_eq_true rfl, Nat.le_of_ble_eq_true rfl⟩) (preT hP hD hK hSD hS hA [] rfl (by decide)) rfl rfl hl.1 rfl (lv_room (Nat.le_of_ble_eq_true rfl)) dX7_init_56 ⟨Nat.le_of_ble_eq_true rfl, Nat.le_of_ble_eq_true rfl⟩) hP hD hS hA [] [0, 1, 2] rfl rfl (by decide) (by decide) (fun r_6 u_5 H locs hw_6 hP hD hS => ?_)
      have hP : va_P D classes [(h, .inr (7, [.ref q_1, .ref q_2, .int 0, .int 0, .int 0, .int 0, .int 0, .int 0, .long 0, .int 0, .int 0, .int 0])), (q_1, .inl (cy 0, 940, .inl (fun _ => 0))), (q_2, .inl (cy 2, 28, .inr (.inl gw)))] H := hP
      have hD : va_D A [(h, .inr (7, [.ref q_1, .ref q_2, .int 0, .int 0, .int 0, .int 0, .int 0, .int 0, .long 0, .int 0, .int 0, .int 0])), (q_1, .inl (cy 0, 940, .inl (fun _ => 0))), (q_2, .inl (cy 2, 28, .inr (.inl gw)))] := hD
      have hw_6 : narrow .char (.int r_6) = .int r_6 := hw_6
      refine lv_istore (lv' := [(5, .int r_6), (4, .int (nI i)), (2, .long wv), (1, .int (nI kk)), (0, .ref h)]) hx hb dX7_init_59 hl (by decide) rfl (fun ls hl => ?_)
      refine lv_iload hx hb dX7_init_61 (lv_at hl 0 rfl) ?_
      refine lv_bipush (v := 32) hx hb dX7_init_63 (by decide) ?_
      refine lv_icmp_ne (tgt := 83) hx hb dX7_init_65 (by decide) (fun c_65 => ?_) (fun c_65 => ?_)
      · refine lv_lload_n hx hb dX7_init_83 rfl (lv_at hl 2 rfl) ?_
        refine lv_bipush (v := 8) hx hb dX7_init_84 (by decide) ?_
        obtain ⟨y_7, ey_7⟩ : ∃ q9 : Int64, (wv : Int64) <<< ((8 : Int32).toInt64 &&& 63) = q9 := ⟨_, rfl⟩
        refine lv_lshl (v := y_7) hx hb dX7_init_86 ey_7 ?_
        refine lv_iload hx hb dX7_init_87 (lv_at hl 0 rfl) ?_
        obtain ⟨y_8, ey_8⟩ : ∃ q9 : Int64, (r_6 : Int32).toInt64 = q9 := ⟨_, rfl⟩
        refine lv_i2l (v := y_8) hx hb dX7_init_89 ey_8 ?_
        refine lv_lor hx hb dX7_init_90 ?_
        refine lv_topl (fun y_9 ey_9 => ?_)
        refine lv_lstore_n (lv' := [(2, .long y_9), (5, .int r_6), (4, .int (nI i)), (1, .int (nI kk)), (0, .ref h)]) hx hb dX7_init_91 rfl hl (by decide) rfl (fun ls hl => ?_)
        refine lv_iinc (v := nI (i + 1)) (lv' := [(4, .int (nI (i + 1))), (2, .long y_9), (5, .int r_6), (1, .int (nI kk)), (0, .ref h)]) hx hb dX7_init_92 hl (k := 2) rfl (nI_1 _) (by decide) rfl (fun ls hl => ?_)
        refine lv_goto (tgt := 33) hx hb dX7_init_95 (by decide) ?_
        exact ih (i + 1) (kk) y_9 gw H locs ls hlt (by omega) (by omega) (subP hP [0, 1, 2] rfl) (hD.sub [0, 1, 2] (by decide) rfl) hS (lv_sub hl [0, 1, 3, 4] rfl)
      · refine lv_aload_n hx hb dX7_init_68 rfl (lv_at hl 4 rfl) ?_
        refine va_get (D := D) (ci := 7) (v := .ref q_2) (C := RX7) (T := TX7) (N := 12) hx hb hts inX7 hown hK hP 0 rfl rfl 1 (by decide) (hts _ tw_88) (fun _ h9 => h9) rfl dX7_init_69 ?_
        refine lv_iload_n hx hb dX7_init_72 rfl (lv_at hl 3 rfl) ?_
        refine lv_lload_n hx hb dX7_init_73 rfl (lv_at hl 2 rfl) ?_
        refine va_last hx hb hK hP hD hS 2 2 rfl rfl (vp_in_nI hk28 (by decide)) dX7_init_74 (fun H locs hP hD hS => ?_)
        obtain ⟨g_10, eg_10⟩ : ∃ g, g = vp_updL gw (Int32.toNatClampNeg (nI kk)) wv := ⟨_, rfl⟩
        have hP : va_P D classes [(h, .inr (7, [.ref q_1, .ref q_2, .int 0, .int 0, .int 0, .int 0, .int 0, .int 0, .long 0, .int 0, .int 0, .int 0])), (q_1, .inl (cy 0, 940, .inl (fun _ => 0))), (q_2, .inl (cy 2, 28, .inr (.inl g_10)))] H := by rw [eg_10]; exact hP
        have hD : va_D A [(h, .inr (7, [.ref q_1, .ref q_2, .int 0, .int 0, .int 0, .int 0, .int 0, .int 0, .long 0, .int 0, .int 0, .int 0])), (q_1, .inl (cy 0, 940, .inl (fun _ => 0))), (q_2, .inl (cy 2, 28, .inr (.inl g_10)))] := by rw [eg_10]; exact hD
        refine lv_lconst (v := 0) hx hb dX7_init_75 (by decide) ?_
        refine lv_lstore_n (lv' := [(2, .long 0), (5, .int r_6), (4, .int (nI i)), (1, .int (nI kk)), (0, .ref h)]) hx hb dX7_init_76 rfl hl (by decide) rfl (fun ls hl => ?_)
        refine lv_iinc (v := nI (kk + 1)) (lv' := [(1, .int (nI (kk + 1))), (2, .long 0), (5, .int r_6), (4, .int (nI i)), (0, .ref h)]) hx hb dX7_init_77 hl (k := 3) rfl (nI_1 _) (by decide) rfl (fun ls hl => ?_)
        refine lv_goto (tgt := 92) hx hb dX7_init_80 (by decide) ?_
        refine lv_iinc (v := nI (i + 1)) (lv' := [(4, .int (nI (i + 1))), (1, .int (nI (kk + 1))), (2, .long 0), (5, .int r_6), (0, .ref h)]) hx hb dX7_init_92 hl (k := 3) rfl (nI_1 _) (by decide) rfl (fun ls hl => ?_)
        refine lv_goto (tgt := 33) hx hb dX7_init_95 (by decide) ?_
        exact ih (i + 1) (kk + 1) 0 g_10 H locs ls hlt (by omega) (by omega) (subP hP [0, 1, 2] rfl) (hD.sub [0, 1, 2] (by decide) rfl) hS (lv_sub hl [0, 2, 1, 4] rfl)
  refine LP _ (fun gw H locs ls hP hD hS => ?_) 161 0 0 0 _ _ _ ls (by omega) (by omega) (by omega) hP hD hS (lv_sub hl [0, 1, 2, 3] rfl)
  have hP9 : va_P D classes [(h, .inr (7, [.ref q_1, .ref q_2, .int 0, .int 0, .int 0, .int 0, .int 0, .int 0, .long 0, .int 0, .int 0, .int 0])), (q_1, .inl (cy 0, 940, .inl (fun _ => 0))), (q_2, .inl (cy 2, 28, .inr (.inl gw)))] H := subP hP [0, 1, 2] rfl
  have hD9 : va_D A [(h, .inr (7, [.ref q_1, .ref q_2, .int 0, .int 0, .int 0, .int 0, .int 0, .int 0, .long 0, .int 0, .int 0, .int 0])), (q_1, .inl (cy 0, 940, .inl (fun _ => 0))), (q_2, .inl (cy 2, 28, .inr (.inl gw)))] := hD.sub [0, 1, 2] (by decide) rfl
  refine W.widen (k := 2) (n := 968) (Nat.le_of_ble_eq_true rfl) (Nat.le_of_ble_eq_true rfl) ?_
  exact W.vret hx hb hr (fun t ht hW => ⟨⟨((q_1), (q_2), (gw)), rfl, trivial, by rw [ht]; exact hP9, va_K.moved hW.alike hK, hD9⟩, hS.F ht⟩) hS.2.2 dX7_init_98
end
section
set_option maxHeartbeats 4000000 in
set_option maxRecDepth 100000 in
theorem c_WP_init (l : Launch) (D : va_G) (cy : Nat → ClassId) (z : Nat → Nat) (sz : Nat) (x : Nat) : Met l yX9_init (Cond.code yX9_init cX9_init 2 none :: gT) ({ frames := 6, cells := 168, slots := 2687, locals := 1200 } : Room) (va_Pc [.ref x] (PRE D cy z [(x, .inr (9, [.null, .null, .null, .null, .null, .null, .null, .null, .null, .null, .null, .int 0, .int 0, .int 0, .int 0]))] sz)) (va_Qv (fun (u : (Nat) × (Nat) × (Nat) × (Nat → Int64) × (Nat) × (Nat) × (Nat) × (Nat) × (Nat) × (Nat → Int32) × (Nat) × (Nat) × (Nat) × (Nat) × (Nat) × (Nat) × (Nat) × (Nat) × (Nat) × (Nat) × (Nat) × (Nat) × (Nat) × (Nat) × (Nat) × (Nat) × (Nat) × (Nat) × (Nat) × (Nat) × (Nat) × (Nat) × (Nat) × (Nat) × (Nat) × (Nat) × (Nat) × (Nat) × (Nat) × (Nat) × (Nat) × (Nat) × (Nat) × (Nat) × (Nat) × (Nat) × (Nat) × (Nat) × (Nat) × (Nat) × (Nat) × (Nat) × (Nat) × (Nat) × (Nat) × (Nat) × (Nat) × (Nat → Option Nat) × (Nat) × (Nat) × (Nat) × (Nat) × (Nat) × (Nat) × (Nat) × (Nat) × (Nat) × (Nat) × (Nat) × (Nat) × (Nat) × (Nat) × (Nat) × (Nat) × (Nat) × (Nat) × (Nat) × (Nat) × (Nat) × (Nat) × (Nat) × (Nat) × (Nat) × (Nat → Option Nat)) => (u.2.2.2.2.2.2.2.2.2.2.2.2.2.2.2.2.2.2.2.2.2.2.2.2.2.2.2.2.2.2.2.2.2.2.2.2.2.2.2.2.2.2.2.2.2.2.2.2.2.2.2.2.2.2.2.2.2.1 0 = some u.2.2.2.2.2.2.2.2.2.2.2.2.2.2.2.2.2.2.2.2.2.2.2.2.2.2.2.2.2.2.2.2.2.2.2.2.2.2.2.2.2.2.2.2.2.2.1) ∧ (u.2.2.2.2.2.2.2.2.2.2.2.2.2.2.2.2.2.2.2.2.2.2.2.2.2.2.2.2.2.2.2.2.2.2.2.2.2.2.2.2.2.2.2.2.2.2.2.2.2.2.2.2.2.2.2.2.2.2.2.2.2.2.2.2.2.2.2.2.2.2.2.2.2.2.2.2.2.2.2.2.2.2.2 0 = some u.2.2.2.2.2.2.2.2.2.2.2.2.2.2.2.2.2.2.2.2.2.2.2.2.2.2.2.2.2.2.2.2.2.2.2.2.2.2.2.2.2.2.2.2.2.2.2.2.2.2.2.2.2.2.2.2.2.2.2.1 ∧ u.2.2.2.2.2.2.2.2.2.2.2.2.2.2.2.2.2.2.2.2.2.2.2.2.2.2.2.2.2.2.2.2.2.2.2.2.2.2.2.2.2.2.2.2.2.2.2.2.2.2.2.2.2.2.2.2.2.2.2.2.2.2.2.2.2.2.2.2.2.2.2.2.2.2.2.2.2.2.2.2.2.2.2 1 = some u.2.2.2.2.2.2.2.2.2.2.2.2.2.2.2.2.2.2.2.2.2.2.2.2.2.2.2.2.2.2.2.2.2.2.2.2.2.2.2.2.2.2.2.2.2.2.2.2.2.2.2.2.2.2.2.2.2.2.2.2.2.2.2.2.2.2.2.2.2.2.2.1) ∧ (∀ j, j < 4 → u.2.2.2.2.2.2.2.2.2.1 j = -1)) (BB D cy (va_A [(x, .inr (9, [.null, .null, .null, .null, .null, .null, .null, .null, .null, .null, .null, .int 0, .int 0, .int 0, .int 0]))] sz) (fun (u : (Nat) × (Nat) × (Nat) × (Nat → Int64) × (Nat) × (Nat) × (Nat) × (Nat) × (Nat) × (Nat → Int32) × (Nat) × (Nat) × (Nat) × (Nat) × (Nat) × (Nat) × (Nat) × (Nat) × (Nat) × (Nat) × (Nat) × (Nat) × (Nat) × (Nat) × (Nat) × (Nat) × (Nat) × (Nat) × (Nat) × (Nat) × (Nat) × (Nat) × (Nat) × (Nat) × (Nat) × (Nat) × (Nat) × (Nat) × (Nat) × (Nat) × (Nat) × (Nat) × (Nat) × (Nat) × (Nat) × (Nat) × (Nat) × (Nat) × (Nat) × (Nat) × (Nat) × (Nat) × (Nat) × (Nat) × (Nat) × (Nat) × (Nat) × (Nat → Option Nat) × (Nat) × (Nat) × (Nat) × (Nat) × (Nat) × (Nat) × (Nat) × (Nat) × (Nat) × (Nat) × (Nat) × (Nat) × (Nat) × (Nat) × (Nat) × (Nat) × (Nat) × (Nat) × (Nat) × (Nat) × (Nat) × (Nat) × (Nat) × (Nat) × (Nat) × (Nat → Option Nat)) => [(x, .inr (9, [.ref u.1, .ref u.2.2.2.2.2.2.2.2.2.2.2.2.2.2.2.2.2.2.2.2.2.2.1, .ref u.2.2.2.2.2.2.2.2.2.2.2.2.2.2.2.2.2.2.2.2.2.2.2.2.2.2.2.2.2.2.2.2.2.1, .ref u.2.2.2.2.2.2.2.2.2.2.2.2.2.2.2.2.2.2.2.2.2.2.2.2.2.2.2.2.2.2.2.2.2.2.2.2.2.2.2.2.2.2.2.2.1, .ref u.2.2.2.2.2.2.2.2.2.2.2.2.2.2.2.2.2.2.2.2.2.2.2.2.2.2.2.2.2.2.2.2.2.2.2.2.2.2.2.2.2.2.2.2.2.2.2.2.2.2.2.2.2.2.2.2.2.2.1, .null, .ref u.2.2.2.2.1, .ref u.2.2.2.2.2.2.2.2.1, .ref u.2.2.2.2.2.2.2.2.2.2.1, .ref u.2.2.2.2.2.2.2.2.2.2.2.2.2.1, .ref u.2.2.2.2.2.2.2.2.2.2.2.2.2.2.1, .int 0, .int (-1), .int (-1), .int (-1)])), (u.1, .inr (7, [.ref u.2.1, .ref u.2.2.1, .int 0, .int 0, .int 0, .int 0, .int 0, .int 0, .long 0, .int 0, .int 0, .int 0])), (u.2.1, .inl (cy 0, 940, .inl (fun _ => 0))), (u.2.2.1, .inl (cy 2, 28, .inr (.inl u.2.2.2.1))), (u.2.2.2.2.1, .inr (0, [.ref u.2.2.2.2.2.1, .ref u.2.2.2.2.2.2.1, .ref u.2.2.2.2.2.2.2.1, .int 0, .int 0])), (u.2.2.2.2.2.1, .inl (cy 1, 40, .inl (fun _ => 0))), (u.2.2.2.2.2.2.1, .inl (cy 1, 40, .inl (fun _ => 0))), (u.2.2.2.2.2.2.2.1, .inl (cy 1, 40, .inl (fun _ => 0))), (u.2.2.2.2.2.2.2.2.1, .inl (cy 1, 4, .inl u.2.2.2.2.2.2.2.2.2.1)), (u.2.2.2.2.2.2.2.2.2.2.1, .inr (4, [.ref u.2.2.2.2.2.2.2.2.2.2.2.1, .ref u.2.2.2.2.2.2.2.2.2.2.2.2.1])), (u.2.2.2.2.2.2.2.2.2.2.2.1, .inl (cy 1, 6, .inl (fun _ => 0))), (u.2.2.2.2.2.2.2.2.2.2.2.2.1, .inl (cy 1, 6, .inl (fun _ => (-1)))), (u.2.2.2.2.2.2.2.2.2.2.2.2.2.2.1, .inr (6, [.ref u.2.2.2.2.2.2.2.2.2.2.2.2.2.2.2.1, .int 0])), (u.2.2.2.2.2.2.2.2.2.2.2.2.2.2.2.1, .inl (cy 0, 26, .inl (fun _ => 0))), (u.2.2.2.2.2.2.2.2.2.2.2.2.2.2.2.2.1, .inr (3, [.ref u.2.2.2.2.2.2.2.2.2.2.2.2.2.2.2.2.2.1, .ref u.2.2.2.2.2.2.2.2.2.2.2.2.2.2.2.2.2.2.1, .ref u.2.2.2.2.2.2.2.2.2.2.2.2.2.2.2.2.2.2.2.1, .ref u.2.2.2.2.2.2.2.2.2.2.2.2.2.2.2.2.2.2.2.2.1, .ref u.2.2.2.2.2.2.2.2.2.2.2.2.2.2.2.2.2.2.2.2.2.1, .int 0, .int 5, .int 0, .int 0])), (u.2.2.2.2.2.2.2.2.2.2.2.2.2.2.2.2.2.1, .inl (cy 2, 32, .inr (.inl (fun _ => 0)))), (u.2.2.2.2.2.2.2.2.2.2.2.2.2.2.2.2.2.2.1, .inl (cy 1, 4, .inl (fun _ => 0))), (u.2.2.2.2.2.2.2.2.2.2.2.2.2.2.2.2.2.2.2.1, .inl (cy 1, 6, .inl (fun _ => 0))), (u.2.2.2.2.2.2.2.2.2.2.2.2.2.2.2.2.2.2.2.2.1, .inl (cy 1, 6, .inl (fun _ => 0))), (u.2.2.2.2.2.2.2.2.2.2.2.2.2.2.2.2.2.2.2.2.2.1, .inl (cy 1, 8, .inl (fun _ => 0))), (u.2.2.2.2.2.2.2.2.2.2.2.2.2.2.2.2.2.2.2.2.2.2.1, .inr (8, [.ref u.2.2.2.2.2.2.2.2.2.2.2.2.2.2.2.2.1, .int 0, .ref u.2.2.2.2.2.2.2.2.2.2.2.2.2.2.2.2.2.2.2.2.2.2.2.1, .ref u.2.2.2.2.2.2.2.2.2.2.2.2.2.2.2.2.2.2.2.2.2.2.2.2.1, .ref u.2.2.2.2.2.2.2.2.2.2.2.2.2.2.2.2.2.2.2.2.2.2.2.2.2.1, .ref u.2.2.2.2.2.2.2.2.2.2.2.2.2.2.2.2.2.2.2.2.2.2.2.2.2.2.1, .ref u.2.2.2.2.2.2.2.2.2.2.2.2.2.2.2.2.2.2.2.2.2.2.2.2.2.2.2.1, .ref u.2.2.2.2.2.2.2.2.2.2.2.2.2.2.2.2.2.2.2.2.2.2.2.2.2.2.2.2.1, .ref u.2.2.2.2.2.2.2.2.2.2.2.2.2.2.2.2.2.2.2.2.2.2.2.2.2.2.2.2.2.1, .ref u.2.2.2.2.2.2.2.2.2.2.2.2.2.2.2.2.2.2.2.2.2.2.2.2.2.2.2.2.2.2.1, .ref u.2.2.2.2.2.2.2.2.2.2.2.2.2.2.2.2.2.2.2.2.2.2.2.2.2.2.2.2.2.2.2.1, .ref u.2.2.2.2.2.2.2.2.2.2.2.2.2.2.2.2.2.2.2.2.2.2.2.2.2.2.2.2.2.2.2.2.1, .int 0])), (u.2.2.2.2.2.2.2.2.2.2.2.2.2.2.2.2.2.2.2.2.2.2.2.1, .inl (cy 1, 36, .inl (fun _ => 0))), (u.2.2.2.2.2.2.2.2.2.2.2.2.2.2.2.2.2.2.2.2.2.2.2.2.1, .inl (cy 1, 6, .inl (fun _ => 0))), (u.2.2.2.2.2.2.2.2.2.2.2.2.2.2.2.2.2.2.2.2.2.2.2.2.2.1, .inl (cy 1, 6, .inl (fun _ => 0))), (u.2.2.2.2.2.2.2.2.2.2.2.2.2.2.2.2.2.2.2.2.2.2.2.2.2.2.1, .inl (cy 1, 6, .inl (fun _ => 0))), (u.2.2.2.2.2.2.2.2.2.2.2.2.2.2.2.2.2.2.2.2.2.2.2.2.2.2.2.1, .inl (cy 1, 6, .inl (fun _ => 0))), (u.2.2.2.2.2.2.2.2.2.2.2.2.2.2.2.2.2.2.2.2.2.2.2.2.2.2.2.2.1, .inl (cy 1, 8, .inl (fun _ => 0))), (u.2.2.2.2.2.2.2.2.2.2.2.2.2.2.2.2.2.2.2.2.2.2.2.2.2.2.2.2.2.2.1, .inl (cy 1, 8, .inl (fun _ => 0))), (u.2.2.2.2.2.2.2.2.2.2.2.2.2.2.2.2.2.2.2.2.2.2.2.2.2.2.2.2.2.2.2.1, .inl (cy 1, 8, .inl (fun _ => 0))), (u.2.2.2.2.2.2.2.2.2.2.2.2.2.2.2.2.2.2.2.2.2.2.2.2.2.2.2.2.2.2.2.2.1, .inl (cy 1, 6, .inl (fun _ => 0))), (u.2.2.2.2.2.2.2.2.2.2.2.2.2.2.2.2.2.2.2.2.2.2.2.2.2.2.2.2.2.1, .inl (cy 1, 8, .inl (fun _ => (-1)))), (u.2.2.2.2.2.2.2.2.2.2.2.2.2.2.2.2.2.2.2.2.2.2.2.2.2.2.2.2.2.2.2.2.2.1, .inr (8, [.ref u.2.2.2.2.2.2.2.2.2.2.2.2.2.2.2.2.1, .int 0, .ref u.2.2.2.2.2.2.2.2.2.2.2.2.2.2.2.2.2.2.2.2.2.2.2.2.2.2.2.2.2.2.2.2.2.2.1, .ref u.2.2.2.2.2.2.2.2.2.2.2.2.2.2.2.2.2.2.2.2.2.2.2.2.2.2.2.2.2.2.2.2.2.2.2.1, .ref u.2.2.2.2.2.2.2.2.2.2.2.2.2.2.2.2.2.2.2.2.2.2.2.2.2.2.2.2.2.2.2.2.2.2.2.2.1, .ref u.2.2.2.2.2.2.2.2.2.2.2.2.2.2.2.2.2.2.2.2.2.2.2.2.2.2.2.2.2.2.2.2.2.2.2.2.2.1, .ref u.2.2.2.2.2.2.2.2.2.2.2.2.2.2.2.2.2.2.2.2.2.2.2.2.2.2.2.2.2.2.2.2.2.2.2.2.2.2.1, .ref u.2.2.2.2.2.2.2.2.2.2.2.2.2.2.2.2.2.2.2.2.2.2.2.2.2.2.2.2.2.2.2.2.2.2.2.2.2.2.2.1, .ref u.2.2.2.2.2.2.2.2.2.2.2.2.2.2.2.2.2.2.2.2.2.2.2.2.2.2.2.2.2.2.2.2.2.2.2.2.2.2.2.2.1, .ref u.2.2.2.2.2.2.2.2.2.2.2.2.2.2.2.2.2.2.2.2.2.2.2.2.2.2.2.2.2.2.2.2.2.2.2.2.2.2.2.2.2.1, .ref u.2.2.2.2.2.2.2.2.2.2.2.2.2.2.2.2.2.2.2.2.2.2.2.2.2.2.2.2.2.2.2.2.2.2.2.2.2.2.2.2.2.2.1, .ref u.2.2.2.2.2.2.2.2.2.2.2.2.2.2.2.2.2.2.2.2.2.2.2.2.2.2.2.2.2.2.2.2.2.2.2.2.2.2.2.2.2.2.2.1, .int 0])), (u.2.2.2.2.2.2.2.2.2.2.2.2.2.2.2.2.2.2.2.2.2.2.2.2.2.2.2.2.2.2.2.2.2.2.1, .inl (cy 1, 36, .inl (fun _ => 0))), (u.2.2.2.2.2.2.2.2.2.2.2.2.2.2.2.2.2.2.2.2.2.2.2.2.2.2.2.2.2.2.2.2.2.2.2.1, .inl (cy 1, 6, .inl (fun _ => 0))), (u.2.2.2.2.2.2.2.2.2.2.2.2.2.2.2.2.2.2.2.2.2.2.2.2.2.2.2.2.2.2.2.2.2.2.2.2.1, .inl (cy 1, 6, .inl (fun _ => 0))), (u.2.2.2.2.2.2.2.2.2.2.2.2.2.2.2.2.2.2.2.2.2.2.2.2.2.2.2.2.2.2.2.2.2.2.2.2.2.1, .inl (cy 1, 6, .inl (fun _ => 0))), (u.2.2.2.2.2.2.2.2.2.2.2.2.2.2.2.2.2.2.2.2.2.2.2.2.2.2.2.2.2.2.2.2.2.2.2.2.2.2.1, .inl (cy 1, 6, .inl (fun _ => 0))), (u.2.2.2.2.2.2.2.2.2.2.2.2.2.2.2.2.2.2.2.2.2.2.2.2.2.2.2.2.2.2.2.2.2.2.2.2.2.2.2.1, .inl (cy 1, 8, .inl (fun _ => 0))), (u.2.2.2.2.2.2.2.2.2.2.2.2.2.2.2.2.2.2.2.2.2.2.2.2.2.2.2.2.2.2.2.2.2.2.2.2.2.2.2.2.2.1, .inl (cy 1, 8, .inl (fun _ => 0))), (u.2.2.2.2.2.2.2.2.2.2.2.2.2.2.2.2.2.2.2.2.2.2.2.2.2.2.2.2.2.2.2.2.2.2.2.2.2.2.2.2.2.2.1, .inl (cy 1, 8, .inl (fun _ => 0))), (u.2.2.2.2.2.2.2.2.2.2.2.2.2.2.2.2.2.2.2.2.2.2.2.2.2.2.2.2.2.2.2.2.2.2.2.2.2.2.2.2.2.2.2.1, .inl (cy 1, 6, .inl (fun _ => 0))), (u.2.2.2.2.2.2.2.2.2.2.2.2.2.2.2.2.2.2.2.2.2.2.2.2.2.2.2.2.2.2.2.2.2.2.2.2.2.2.2.2.1, .inl (cy 1, 8, .inl (fun _ => (-1)))), (u.2.2.2.2.2.2.2.2.2.2.2.2.2.2.2.2.2.2.2.2.2.2.2.2.2.2.2.2.2.2.2.2.2.2.2.2.2.2.2.2.2.2.2.2.1, .inr (1, [.ref u.2.2.2.2.2.2.2.2.2.2.2.2.2.2.2.2.2.2.2.2.2.2.2.2.2.2.2.2.2.2.2.2.2.2.2.2.2.2.2.2.2.2.2.2.2.1, .int 0, .int 0])), (u.2.2.2.2.2.2.2.2.2.2.2.2.2.2.2.2.2.2.2.2.2.2.2.2.2.2.2.2.2.2.2.2.2.2.2.2.2.2.2.2.2.2.2.2.2.1, .inl (cy 4, 9, .inr (.inr (.inr (.inr u.2.2.2.2.2.2.2.2.2.2.2.2.2.2.2.2.2.2.2.2.2.2.2.2.2.2.2.2.2.2.2.2.2.2.2.2.2.2.2.2.2.2.2.2.2.2.2.2.2.2.2.2.2.2.2.2.2.1))))), (u.2.2.2.2.2.2.2.2.2.2.2.2.2.2.2.2.2.2.2.2.2.2.2.2.2.2.2.2.2.2.2.2.2.2.2.2.2.2.2.2.2.2.2.2.2.2.1, .inr (8, [.ref u.2.2.2.2.2.2.2.2.2.2.2.2.2.2.2.2.1, .int 0, .ref u.2.2.2.2.2.2.2.2.2.2.2.2.2.2.2.2.2.2.2.2.2.2.2.2.2.2.2.2.2.2.2.2.2.2.2.2.2.2.2.2.2.2.2.2.2.2.2.1, .ref u.2.2.2.2.2.2.2.2.2.2.2.2.2.2.2.2.2.2.2.2.2.2.2.2.2.2.2.2.2.2.2.2.2.2.2.2.2.2.2.2.2.2.2.2.2.2.2.2.1, .ref u.2.2.2.2.2.2.2.2.2.2.2.2.2.2.2.2.2.2.2.2.2.2.2.2.2.2.2.2.2.2.2.2.2.2.2.2.2.2.2.2.2.2.2.2.2.2.2.2.2.1, .ref u.2.2.2.2.2.2.2.2.2.2.2.2.2.2.2.2.2.2.2.2.2.2.2.2.2.2.2.2.2.2.2.2.2.2.2.2.2.2.2.2.2.2.2.2.2.2.2.2.2.2.1, .ref u.2.2.2.2.2.2.2.2.2.2.2.2.2.2.2.2.2.2.2.2.2.2.2.2.2.2.2.2.2.2.2.2.2.2.2.2.2.2.2.2.2.2.2.2.2.2.2.2.2.2.2.1, .ref u.2.2.2.2.2.2.2.2.2.2.2.2.2.2.2.2.2.2.2.2.2.2.2.2.2.2.2.2.2.2.2.2.2.2.2.2.2.2.2.2.2.2.2.2.2.2.2.2.2.2.2.2.1, .ref u.2.2.2.2.2.2.2.2.2.2.2.2.2.2.2.2.2.2.2.2.2.2.2.2.2.2.2.2.2.2.2.2.2.2.2.2.2.2.2.2.2.2.2.2.2.2.2.2.2.2.2.2.2.1, .ref u.2.2.2.2.2.2.2.2.2.2.2.2.2.2.2.2.2.2.2.2.2.2.2.2.2.2.2.2.2.2.2.2.2.2.2.2.2.2.2.2.2.2.2.2.2.2.2.2.2.2.2.2.2.2.1, .ref u.2.2.2.2.2.2.2.2.2.2.2.2.2.2.2.2.2.2.2.2.2.2.2.2.2.2.2.2.2.2.2.2.2.2.2.2.2.2.2.2.2.2.2.2.2.2.2.2.2.2.2.2.2.2.2.1, .ref u.2.2.2.2.2.2.2.2.2.2.2.2.2.2.2.2.2.2.2.2.2.2.2.2.2.2.2.2.2.2.2.2.2.2.2.2.2.2.2.2.2.2.2.2.2.2.2.2.2.2.2.2.2.2.2.2.1, .int 0])), (u.2.2.2.2.2.2.2.2.2.2.2.2.2.2.2.2.2.2.2.2.2.2.2.2.2.2.2.2.2.2.2.2.2.2.2.2.2.2.2.2.2.2.2.2.2.2.2.1, .inl (cy 1, 36, .inl (fun _ => 0))), (u.2.2.2.2.2.2.2.2.2.2.2.2.2.2.2.2.2.2.2.2.2.2.2.2.2.2.2.2.2.2.2.2.2.2.2.2.2.2.2.2.2.2.2.2.2.2.2.2.1, .inl (cy 1, 6, .inl (fun _ => 0))), (u.2.2.2.2.2.2.2.2.2.2.2.2.2.2.2.2.2.2.2.2.2.2.2.2.2.2.2.2.2.2.2.2.2.2.2.2.2.2.2.2.2.2.2.2.2.2.2.2.2.1, .inl (cy 1, 6, .inl (fun _ => 0))), (u.2.2.2.2.2.2.2.2.2.2.2.2.2.2.2.2.2.2.2.2.2.2.2.2.2.2.2.2.2.2.2.2.2.2.2.2.2.2.2.2.2.2.2.2.2.2.2.2.2.2.1, .inl (cy 1, 6, .inl (fun _ => 0))), (u.2.2.2.2.2.2.2.2.2.2.2.2.2.2.2.2.2.2.2.2.2.2.2.2.2.2.2.2.2.2.2.2.2.2.2.2.2.2.2.2.2.2.2.2.2.2.2.2.2.2.2.1, .inl (cy 1, 6, .inl (fun _ => 0))), (u.2.2.2.2.2.2.2.2.2.2.2.2.2.2.2.2.2.2.2.2.2.2.2.2.2.2.2.2.2.2.2.2.2.2.2.2.2.2.2.2.2.2.2.2.2.2.2.2.2.2.2.2.1, .inl (cy 1, 8, .inl (fun _ => 0))), (u.2.2.2.2.2.2.2.2.2.2.2.2.2.2.2.2.2.2.2.2.2.2.2.2.2.2.2.2.2.2.2.2.2.2.2.2.2.2.2.2.2.2.2.2.2.2.2.2.2.2.2.2.2.2.1, .inl (cy 1, 8, .inl (fun _ => 0))), (u.2.2.2.2.2.2.2.2.2.2.2.2.2.2.2.2.2.2.2.2.2.2.2.2.2.2.2.2.2.2.2.2.2.2.2.2.2.2.2.2.2.2.2.2.2.2.2.2.2.2.2.2.2.2.2.1, .inl (cy 1, 8, .inl (fun _ => 0))), (u.2.2.2.2.2.2.2.2.2.2.2.2.2.2.2.2.2.2.2.2.2.2.2.2.2.2.2.2.2.2.2.2.2.2.2.2.2.2.2.2.2.2.2.2.2.2.2.2.2.2.2.2.2.2.2.2.1, .inl (cy 1, 6, .inl (fun _ => 0))), (u.2.2.2.2.2.2.2.2.2.2.2.2.2.2.2.2.2.2.2.2.2.2.2.2.2.2.2.2.2.2.2.2.2.2.2.2.2.2.2.2.2.2.2.2.2.2.2.2.2.2.2.2.2.1, .inl (cy 1, 8, .inl (fun _ => (-1)))), (u.2.2.2.2.2.2.2.2.2.2.2.2.2.2.2.2.2.2.2.2.2.2.2.2.2.2.2.2.2.2.2.2.2.2.2.2.2.2.2.2.2.2.2.2.2.2.2.2.2.2.2.2.2.2.2.2.2.2.1, .inl (cy 5, 2, .inr (.inr (.inr (.inr u.2.2.2.2.2.2.2.2.2.2.2.2.2.2.2.2.2.2.2.2.2.2.2.2.2.2.2.2.2.2.2.2.2.2.2.2.2.2.2.2.2.2.2.2.2.2.2.2.2.2.2.2.2.2.2.2.2.2.2.2.2.2.2.2.2.2.2.2.2.2.2.2.2.2.2.2.2.2.2.2.2.2.2))))), (u.2.2.2.2.2.2.2.2.2.2.2.2.2.2.2.2.2.2.2.2.2.2.2.2.2.2.2.2.2.2.2.2.2.2.2.2.2.2.2.2.2.2.2.2.2.2.2.2.2.2.2.2.2.2.2.2.2.2.2.1, .inr (2, [.ref u.2.2.2.2.2.2.2.2.2.2.2.2.2.2.2.2.2.2.2.2.2.2.2.2.2.2.2.2.2.2.2.2.2.2.2.2.2.2.2.2.2.2.2.2.2.2.2.2.2.2.2.2.2.2.2.2.2.2.2.2.1, .null, .int 0])), (u.2.2.2.2.2.2.2.2.2.2.2.2.2.2.2.2.2.2.2.2.2.2.2.2.2.2.2.2.2.2.2.2.2.2.2.2.2.2.2.2.2.2.2.2.2.2.2.2.2.2.2.2.2.2.2.2.2.2.2.2.1, .inr (8, [.ref u.2.2.2.2.2.2.2.2.2.2.2.2.2.2.2.2.1, .int 0, .ref u.2.2.2.2.2.2.2.2.2.2.2.2.2.2.2.2.2.2.2.2.2.2.2.2.2.2.2.2.2.2.2.2.2.2.2.2.2.2.2.2.2.2.2.2.2.2.2.2.2.2.2.2.2.2.2.2.2.2.2.2.2.1, .ref u.2.2.2.2.2.2.2.2.2.2.2.2.2.2.2.2.2.2.2.2.2.2.2.2.2.2.2.2.2.2.2.2.2.2.2.2.2.2.2.2.2.2.2.2.2.2.2.2.2.2.2.2.2.2.2.2.2.2.2.2.2.2.1, .ref u.2.2.2.2.2.2.2.2.2.2.2.2.2.2.2.2.2.2.2.2.2.2.2.2.2.2.2.2.2.2.2.2.2.2.2.2.2.2.2.2.2.2.2.2.2.2.2.2.2.2.2.2.2.2.2.2.2.2.2.2.2.2.2.1, .ref u.2.2.2.2.2.2.2.2.2.2.2.2.2.2.2.2.2.2.2.2.2.2.2.2.2.2.2.2.2.2.2.2.2.2.2.2.2.2.2.2.2.2.2.2.2.2.2.2.2.2.2.2.2.2.2.2.2.2.2.2.2.2.2.2.1, .ref u.2.2.2.2.2.2.2.2.2.2.2.2.2.2.2.2.2.2.2.2.2.2.2.2.2.2.2.2.2.2.2.2.2.2.2.2.2.2.2.2.2.2.2.2.2.2.2.2.2.2.2.2.2.2.2.2.2.2.2.2.2.2.2.2.2.1, .ref u.2.2.2.2.2.2.2.2.2.2.2.2.2.2.2.2.2.2.2.2.2.2.2.2.2.2.2.2.2.2.2.2.2.2.2.2.2.2.2.2.2.2.2.2.2.2.2.2.2.2.2.2.2.2.2.2.2.2.2.2.2.2.2.2.2.2.1, .ref u.2.2.2.2.2.2.2.2.2.2.2.2.2.2.2.2.2.2.2.2.2.2.2.2.2.2.2.2.2.2.2.2.2.2.2.2.2.2.2.2.2.2.2.2.2.2.2.2.2.2.2.2.2.2.2.2.2.2.2.2.2.2.2.2.2.2.2.1, .ref u.2.2.2.2.2.2.2.2.2.2.2.2.2.2.2.2.2.2.2.2.2.2.2.2.2.2.2.2.2.2.2.2.2.2.2.2.2.2.2.2.2.2.2.2.2.2.2.2.2.2.2.2.2.2.2.2.2.2.2.2.2.2.2.2.2.2.2.2.1, .ref u.2.2.2.2.2.2.2.2.2.2.2.2.2.2.2.2.2.2.2.2.2.2.2.2.2.2.2.2.2.2.2.2.2.2.2.2.2.2.2.2.2.2.2.2.2.2.2.2.2.2.2.2.2.2.2.2.2.2.2.2.2.2.2.2.2.2.2.2.2.1, .ref u.2.2.2.2.2.2.2.2.2.2.2.2.2.2.2.2.2.2.2.2.2.2.2.2.2.2.2.2.2.2.2.2.2.2.2.2.2.2.2.2.2.2.2.2.2.2.2.2.2.2.2.2.2.2.2.2.2.2.2.2.2.2.2.2.2.2.2.2.2.2.1, .int 0])), (u.2.2.2.2.2.2.2.2.2.2.2.2.2.2.2.2.2.2.2.2.2.2.2.2.2.2.2.2.2.2.2.2.2.2.2.2.2.2.2.2.2.2.2.2.2.2.2.2.2.2.2.2.2.2.2.2.2.2.2.2.2.1, .inl (cy 1, 36, .inl (fun _ => 0))), (u.2.2.2.2.2.2.2.2.2.2.2.2.2.2.2.2.2.2.2.2.2.2.2.2.2.2.2.2.2.2.2.2.2.2.2.2.2.2.2.2.2.2.2.2.2.2.2.2.2.2.2.2.2.2.2.2.2.2.2.2.2.2.1, .inl (cy 1, 6, .inl (fun _ => 0))), (u.2.2.2.2.2.2.2.2.2.2.2.2.2.2.2.2.2.2.2.2.2.2.2.2.2.2.2.2.2.2.2.2.2.2.2.2.2.2.2.2.2.2.2.2.2.2.2.2.2.2.2.2.2.2.2.2.2.2.2.2.2.2.2.1, .inl (cy 1, 6, .inl (fun _ => 0))), (u.2.2.2.2.2.2.2.2.2.2.2.2.2.2.2.2.2.2.2.2.2.2.2.2.2.2.2.2.2.2.2.2.2.2.2.2.2.2.2.2.2.2.2.2.2.2.2.2.2.2.2.2.2.2.2.2.2.2.2.2.2.2.2.2.1, .inl (cy 1, 6, .inl (fun _ => 0))), (u.2.2.2.2.2.2.2.2.2.2.2.2.2.2.2.2.2.2.2.2.2.2.2.2.2.2.2.2.2.2.2.2.2.2.2.2.2.2.2.2.2.2.2.2.2.2.2.2.2.2.2.2.2.2.2.2.2.2.2.2.2.2.2.2.2.1, .inl (cy 1, 6, .inl (fun _ => 0))), (u.2.2.2.2.2.2.2.2.2.2.2.2.2.2.2.2.2.2.2.2.2.2.2.2.2.2.2.2.2.2.2.2.2.2.2.2.2.2.2.2.2.2.2.2.2.2.2.2.2.2.2.2.2.2.2.2.2.2.2.2.2.2.2.2.2.2.1, .inl (cy 1, 8, .inl (fun _ => 0))), (u.2.2.2.2.2.2.2.2.2.2.2.2.2.2.2.2.2.2.2.2.2.2.2.2.2.2.2.2.2.2.2.2.2.2.2.2.2.2.2.2.2.2.2.2.2.2.2.2.2.2.2.2.2.2.2.2.2.2.2.2.2.2.2.2.2.2.2.2.1, .inl (cy 1, 8, .inl (fun _ => 0))), (u.2.2.2.2.2.2.2.2.2.2.2.2.2.2.2.2.2.2.2.2.2.2.2.2.2.2.2.2.2.2.2.2.2.2.2.2.2.2.2.2.2.2.2.2.2.2.2.2.2.2.2.2.2.2.2.2.2.2.2.2.2.2.2.2.2.2.2.2.2.1, .inl (cy 1, 8, .inl (fun _ => 0))), (u.2.2.2.2.2.2.2.2.2.2.2.2.2.2.2.2.2.2.2.2.2.2.2.2.2.2.2.2.2.2.2.2.2.2.2.2.2.2.2.2.2.2.2.2.2.2.2.2.2.2.2.2.2.2.2.2.2.2.2.2.2.2.2.2.2.2.2.2.2.2.1, .inl (cy 1, 6, .inl (fun _ => 0))), (u.2.2.2.2.2.2.2.2.2.2.2.2.2.2.2.2.2.2.2.2.2.2.2.2.2.2.2.2.2.2.2.2.2.2.2.2.2.2.2.2.2.2.2.2.2.2.2.2.2.2.2.2.2.2.2.2.2.2.2.2.2.2.2.2.2.2.2.1, .inl (cy 1, 8, .inl (fun _ => (-1)))), (u.2.2.2.2.2.2.2.2.2.2.2.2.2.2.2.2.2.2.2.2.2.2.2.2.2.2.2.2.2.2.2.2.2.2.2.2.2.2.2.2.2.2.2.2.2.2.2.2.2.2.2.2.2.2.2.2.2.2.2.2.2.2.2.2.2.2.2.2.2.2.2.1, .inr (2, [.ref u.2.2.2.2.2.2.2.2.2.2.2.2.2.2.2.2.2.2.2.2.2.2.2.2.2.2.2.2.2.2.2.2.2.2.2.2.2.2.2.2.2.2.2.2.2.2.2.2.2.2.2.2.2.2.2.2.2.2.2.2.2.2.2.2.2.2.2.2.2.2.2.2.1, .null, .int 0])), (u.2.2.2.2.2.2.2.2.2.2.2.2.2.2.2.2.2.2.2.2.2.2.2.2.2.2.2.2.2.2.2.2.2.2.2.2.2.2.2.2.2.2.2.2.2.2.2.2.2.2.2.2.2.2.2.2.2.2.2.2.2.2.2.2.2.2.2.2.2.2.2.2.1, .inr (8, [.ref u.2.2.2.2.2.2.2.2.2.2.2.2.2.2.2.2.1, .int 0, .ref u.2.2.2.2.2.2.2.2.2.2.2.2.2.2.2.2.2.2.2.2.2.2.2.2.2.2.2.2.2.2.2.2.2.2.2.2.2.2.2.2.2.2.2.2.2.2.2.2.2.2.2.2.2.2.2.2.2.2.2.2.2.2.2.2.2.2.2.2.2.2.2.2.2.1, .ref u.2.2.2.2.2.2.2.2.2.2.2.2.2.2.2.2.2.2.2.2.2.2.2.2.2.2.2.2.2.2.2.2.2.2.2.2.2.2.2.2.2.2.2.2.2.2.2.2.2.2.2.2.2.2.2.2.2.2.2.2.2.2.2.2.2.2.2.2.2.2.2.2.2.2.1, .ref u.2.2.2.2.2.2.2.2.2.2.2.2.2.2.2.2.2.2.2.2.2.2.2.2.2.2.2.2.2.2.2.2.2.2.2.2.2.2.2.2.2.2.2.2.2.2.2.2.2.2.2.2.2.2.2.2.2.2.2.2.2.2.2.2.2.2.2.2.2.2.2.2.2.2.2.1, .ref u.2.2.2.2.2.2.2.2.2.2.2.2.2.2.2.2.2.2.2.2.2.2.2.2.2.2.2.2.2.2.2.2.2.2.2.2.2.2.2.2.2.2.2.2.2.2.2.2.2.2.2.2.2.2.2.2.2.2.2.2.2.2.2.2.2.2.2.2.2.2.2.2.2.2.2.2.1, .ref u.2.2.2.2.2.2.2.2.2.2.2.2.2.2.2.2.2.2.2.2.2.2.2.2.2.2.2.2.2.2.2.2.2.2.2.2.2.2.2.2.2.2.2.2.2.2.2.2.2.2.2.2.2.2.2.2.2.2.2.2.2.2.2.2.2.2.2.2.2.2.2.2.2.2.2.2.2.1, .ref u.2.2.2.2.2.2.2.2.2.2.2.2.2.2.2.2.2.2.2.2.2.2.2.2.2.2.2.2.2.2.2.2.2.2.2.2.2.2.2.2.2.2.2.2.2.2.2.2.2.2.2.2.2.2.2.2.2.2.2.2.2.2.2.2.2.2.2.2.2.2.2.2.2.2.2.2.2.2.1, .ref u.2.2.2.2.2.2.2.2.2.2.2.2.2.2.2.2.2.2.2.2.2.2.2.2.2.2.2.2.2.2.2.2.2.2.2.2.2.2.2.2.2.2.2.2.2.2.2.2.2.2.2.2.2.2.2.2.2.2.2.2.2.2.2.2.2.2.2.2.2.2.2.2.2.2.2.2.2.2.2.1, .ref u.2.2.2.2.2.2.2.2.2.2.2.2.2.2.2.2.2.2.2.2.2.2.2.2.2.2.2.2.2.2.2.2.2.2.2.2.2.2.2.2.2.2.2.2.2.2.2.2.2.2.2.2.2.2.2.2.2.2.2.2.2.2.2.2.2.2.2.2.2.2.2.2.2.2.2.2.2.2.2.2.1, .ref u.2.2.2.2.2.2.2.2.2.2.2.2.2.2.2.2.2.2.2.2.2.2.2.2.2.2.2.2.2.2.2.2.2.2.2.2.2.2.2.2.2.2.2.2.2.2.2.2.2.2.2.2.2.2.2.2.2.2.2.2.2.2.2.2.2.2.2.2.2.2.2.2.2.2.2.2.2.2.2.2.2.1, .ref u.2.2.2.2.2.2.2.2.2.2.2.2.2.2.2.2.2.2.2.2.2.2.2.2.2.2.2.2.2.2.2.2.2.2.2.2.2.2.2.2.2.2.2.2.2.2.2.2.2.2.2.2.2.2.2.2.2.2.2.2.2.2.2.2.2.2.2.2.2.2.2.2.2.2.2.2.2.2.2.2.2.2.1, .int 0])), (u.2.2.2.2.2.2.2.2.2.2.2.2.2.2.2.2.2.2.2.2.2.2.2.2.2.2.2.2.2.2.2.2.2.2.2.2.2.2.2.2.2.2.2.2.2.2.2.2.2.2.2.2.2.2.2.2.2.2.2.2.2.2.2.2.2.2.2.2.2.2.2.2.2.1, .inl (cy 1, 36, .inl (fun _ => 0))), (u.2.2.2.2.2.2.2.2.2.2.2.2.2.2.2.2.2.2.2.2.2.2.2.2.2.2.2.2.2.2.2.2.2.2.2.2.2.2.2.2.2.2.2.2.2.2.2.2.2.2.2.2.2.2.2.2.2.2.2.2.2.2.2.2.2.2.2.2.2.2.2.2.2.2.1, .inl (cy 1, 6, .inl (fun _ => 0))), (u.2.2.2.2.2.2.2.2.2.2.2.2.2.2.2.2.2.2.2.2.2.2.2.2.2.2.2.2.2.2.2.2.2.2.2.2.2.2.2.2.2.2.2.2.2.2.2.2.2.2.2.2.2.2.2.2.2.2.2.2.2.2.2.2.2.2.2.2.2.2.2.2.2.2.2.1, .inl (cy 1, 6, .inl (fun _ => 0))), (u.2.2.2.2.2.2.2.2.2.2.2.2.2.2.2.2.2.2.2.2.2.2.2.2.2.2.2.2.2.2.2.2.2.2.2.2.2.2.2.2.2.2.2.2.2.2.2.2.2.2.2.2.2.2.2.2.2.2.2.2.2.2.2.2.2.2.2.2.2.2.2.2.2.2.2.2.1, .inl (cy 1, 6, .inl (fun _ => 0))), (u.2.2.2.2.2.2.2.2.2.2.2.2.2.2.2.2.2.2.2.2.2.2.2.2.2.2.2.2.2.2.2.2.2.2.2.2.2.2.2.2.2.2.2.2.2.2.2.2.2.2.2.2.2.2.2.2.2.2.2.2.2.2.2.2.2.2.2.2.2.2.2.2.2.2.2.2.2.1, .inl (cy 1, 6, .inl (fun _ => 0))), (u.2.2.2.2.2.2.2.2.2.2.2.2.2.2.2.2.2.2.2.2.2.2.2.2.2.2.2.2.2.2.2.2.2.2.2.2.2.2.2.2.2.2.2.2.2.2.2.2.2.2.2.2.2.2.2.2.2.2.2.2.2.2.2.2.2.2.2.2.2.2.2.2.2.2.2.2.2.2.1, .inl (cy 1, 8, .inl (fun _ => 0))), (u.2.2.2.2.2.2.2.2.2.2.2.2.2.2.2.2.2.2.2.2.2.2.2.2.2.2.2.2.2.2.2.2.2.2.2.2.2.2.2.2.2.2.2.2.2.2.2.2.2.2.2.2.2.2.2.2.2.2.2.2.2.2.2.2.2.2.2.2.2.2.2.2.2.2.2.2.2.2.2.2.1, .inl (cy 1, 8, .inl (fun _ => 0))), (u.2.2.2.2.2.2.2.2.2.2.2.2.2.2.2.2.2.2.2.2.2.2.2.2.2.2.2.2.2.2.2.2.2.2.2.2.2.2.2.2.2.2.2.2.2.2.2.2.2.2.2.2.2.2.2.2.2.2.2.2.2.2.2.2.2.2.2.2.2.2.2.2.2.2.2.2.2.2.2.2.2.1, .inl (cy 1, 8, .inl (fun _ => 0))), (u.2.2.2.2.2.2.2.2.2.2.2.2.2.2.2.2.2.2.2.2.2.2.2.2.2.2.2.2.2.2.2.2.2.2.2.2.2.2.2.2.2.2.2.2.2.2.2.2.2.2.2.2.2.2.2.2.2.2.2.2.2.2.2.2.2.2.2.2.2.2.2.2.2.2.2.2.2.2.2.2.2.2.1, .inl (cy 1, 6, .inl (fun _ => 0))), (u.2.2.2.2.2.2.2.2.2.2.2.2.2.2.2.2.2.2.2.2.2.2.2.2.2.2.2.2.2.2.2.2.2.2.2.2.2.2.2.2.2.2.2.2.2.2.2.2.2.2.2.2.2.2.2.2.2.2.2.2.2.2.2.2.2.2.2.2.2.2.2.2.2.2.2.2.2.2.2.1, .inl (cy 1, 8, .inl (fun _ => (-1)))), (u.2.2.2.2.2.2.2.2.2.2.2.2.2.1, .inl (cy 1, 8, .inl (fun _ => (-1))))])) (va_A [(x, .inr (9, [.null, .null, .null, .null, .null, .null, .null, .null, .null, .null, .null, .int 0, .int 0, .int 0, .int 0]))] sz)) 168 2687 (va_A [(x, .inr (9, [.null, .null, .null, .null, .null, .null, .null, .null, .null, .null, .null, .int 0, .int 0, .int 0, .int 0]))] sz) := by
  refine Met.ofW (cc := cX9_init) (maxL := 2) (ret := none) (by decide) rfl ?_
  intro p e s m args below meth c s₁ B hml hv
  obtain ⟨rfl, hsz, hP, hK, hD0, hSD⟩ := hv
  have hx := B.exec
  have hb := B.bytes
  have hr := B.returns
  have hlocks := B.notSynchronized
  have hts : ∀ w ∈ gT, w.before _ s = true := fun w h => atoms_spec (ws := Cond.code yX9_init cX9_init 2 none :: gT) B.pre w (List.mem_cons_of_mem _ h)
  have hown : s.vm.findClass RX9 = some m.cls := findClass_of_methodNamed B.named
  have hin : meth.name = "<init>" := (name_of_methodNamed B.named B.method).1
  subst hsz
  have hD := hD0.self (sz := s.heap.size)
  generalize hAe : va_A [(x, .inr (9, [.null, .null, .null, .null, .null, .null, .null, .null, .null, .null, .null, .int 0, .int 0, .int 0, .int 0]))] s.heap.size = A at hD hSD ⊢
  have hA : ∀ q : Nat, s.heap.size ≤ q → A q := fun q h => by rw [← hAe]; exact Or.inr h
  have hS : va_S A s.heap s.heap [] := va_S.rf
  have hl := lv_entry ([.ref x]) (n := 2) (Nat.le_of_ble_eq_true rfl)
  rw [lg_entry_eq]
  generalize (lg_sl ([.ref x]) ++ List.replicate (2 - (lg_sl ([.ref x])).length) Slot.unset).toArray = ls at hl ⊢
  have hl : lv_has ls 2 [(0, .ref x)] := hl
  refine lv_aload_n hx hb dX9_init_0 rfl (lv_at hl 0 rfl) ?_
  refine W.objInit hx hb hown (hts _ tw_29) (hts _ tw_30) (hts _ tw_31) rfl (by rw [hml]; exact hl.1) rfl dX9_init_1 (Nat.le_of_ble_eq_true rfl) (Nat.le_of_ble_eq_true rfl) ?_
  refine W.eq (g2 := F0 m 4 ls []) rfl ?_
  refine lv_aload_n hx hb dX9_init_4 rfl (lv_at hl 0 rfl) ?_
  refine va_new (ci := 7) (fs := [.null, .null, .int 0, .int 0, .int 0, .int 0, .int 0, .int 0, .long 0, .int 0, .int 0, .int 0]) (C := RX7) (T := TX7) (N := 12) hx hb hts inX7 tyX7 tyX7_ok hown (hts _ tw_32) (hts _ tw_33) (hts _ tw_2) hK hP hD hS hA rfl (dfX7) (Nat.le_of_ble_eq_true rfl) (Nat.le_of_ble_eq_true rfl) dX9_init_5 (fun q_1 H hP hD hS => ?_)
  have hP : va_P D classes [(x, .inr (9, [.null, .null, .null, .null, .null, .null, .null, .null, .null, .null, .null, .int 0, .int 0, .int 0, .int 0])), (q_1, .inr (7, [.null, .null, .int 0, .int 0, .int 0, .int 0, .int 0, .int 0, .long 0, .int 0, .int 0, .int 0]))] H := hP
  have hD : va_D A [(x, .inr (9, [.null, .null, .null, .null, .null, .null, .null, .null, .null, .null, .null, .int 0, .int 0, .int 0, .int 0])), (q_1, .inr (7, [.null, .null, .int 0, .int 0, .int 0, .int 0, .int 0, .int 0, .long 0, .int 0, .int 0, .int 0]))] := hD
  refine W.widen (k := 1) (n := 12) (Nat.le_of_ble_eq_true rfl) (Nat.le_of_ble_eq_true rfl) ?_
  refine lv_dup hx hb dX9_init_8 rfl ?_
  refine endv (wr := [(x, .inr (9, [.null, .null, .null, .null, .null, .null, .null, .null, .null, .null, .null, .int 0, .int 0, .int 0, .int 0]))]) (va_runI (As := []) (rest := [.ref q_1, .ref x]) ⟨hx, hb, hml, hown, hts⟩ (c_Tape_init l D cy z H.size q_1) (cwI 0 hts (gC tw_36) rfl rfl rfl (hts _ tw_2) (hts _ tw_34) (hts _ tw_35) rfl (by decide +kernel) ⟨Nat.le_of_ble_eq_true rfl, Nat.le_of_ble_eq_true rfl⟩) (preS hP hD hK hSD hS hA [1] rfl (by decide)) rfl rfl hl.1 rfl (lv_room (Nat.le_of_ble_eq_true rfl)) dX9_init_9 ⟨Nat.le_of_ble_eq_true rfl, Nat.le_of_ble_eq_true rfl⟩) hP hD hS hA [1] [0] rfl rfl (by decide) (by decide) (fun u_2 H locs hw_3 hP hD hS => ?_)
  obtain ⟨q_4, q_5, g_6⟩ := u_2
  have hP : va_P D classes [(x, .inr (9, [.null, .null, .null, .null, .null, .null, .null, .null, .null, .null, .null, .int 0, .int 0, .int 0, .int 0])), (q_1, .inr (7, [.ref q_4, .ref q_5, .int 0, .int 0, .int 0, .int 0, .int 0, .int 0, .long 0, .int 0, .int 0, .int 0])), (q_4, .inl (cy 0, 940, .inl (fun _ => 0))), (q_5, .inl (cy 2, 28, .inr (.inl g_6)))] H := hP
  have hD : va_D A [(x, .inr (9, [.null, .null, .null, .null, .null, .null, .null, .null, .null, .null, .null, .int 0, .int 0, .int 0, .int 0])), (q_1, .inr (7, [.ref q_4, .ref q_5, .int 0, .int 0, .int 0, .int 0, .int 0, .int 0, .long 0, .int 0, .int 0, .int 0])), (q_4, .inl (cy 0, 940, .inl (fun _ => 0))), (q_5, .inl (cy 2, 28, .inr (.inl g_6)))] := hD
  refine W.widen (k := 3) (n := 980) (Nat.le_of_ble_eq_true rfl) (Nat.le_of_ble_eq_true rfl) ?_
  refine va_putF (D := D) (ci := 9) (v := .ref q_1) (ty := .object "WonderParcels$Tape") (C := RX9) (T := TX9) (N := 15) hx hb hts inX9 tyX9 tyX9_ok nmX9 hown hK hP hD hS 0 rfl rfl 0 (by decide) (hts _ tw_346) (fun _ h9 => h9) rfl hin rfl (by decide +kernel) rfl rfl (Nat.le_of_ble_eq_true rfl) dX9_init_12 (fun H locs hP hD hS => ?_)
  have hP : va_P D classes [(x, .inr (9, [.ref q_1, .null, .null, .null, .null, .null, .null, .null, .null, .null, .null, .int 0, .int 0, .int 0, .int 0])), (q_1, .inr (7, [.ref q_4, .ref q_5, .int 0, .int 0, .int 0, .int 0, .int 0, .int 0, .long 0, .int 0, .int 0, .int 0])), (q_4, .inl (cy 0, 940, .inl (fun _ => 0))), (q_5, .inl (cy 2, 28, .inr (.inl g_6)))] H := hP
  have hD : va_D A [(x, .inr (9, [.ref q_1, .null, .null, .null, .null, .null, .null, .null, .null, .null, .null, .int 0, .int 0, .int 0, .int 0])), (q_1, .inr (7, [.ref q_4, .ref q_5, .int 0, .int 0, .int 0, .int 0, .int 0, .int 0, .long 0, .int 0, .int 0, .int 0])), (q_4, .inl (cy 0, 940, .inl (fun _ => 0))), (q_5, .inl (cy 2, 28, .inr (.inl g_6)))] := hD
  refine lv_aload_n hx hb dX9_init_15 rfl (lv_at hl 0 rfl) ?_
  refine va_new (ci := 0) (fs := [.null, .null, .null, .int 0, .int 0]) (C := RX0) (T := TX0) (N := 5) hx hb hts inX0 tyX0 tyX0_ok hown (hts _ tw_136) (hts _ tw_137) (hts _ tw_7) hK hP hD hS hA rfl (dfX0) (Nat.le_of_ble_eq_true rfl) (Nat.le_of_ble_eq_true rfl) dX9_init_16 (fun q_7 H hP hD hS => ?_)
  have hP : va_P D classes [(x, .inr (9, [.ref q_1, .null, .null, .null, .null, .null, .null, .null, .null, .null, .null, .int 0, .int 0, .int 0, .int 0])), (q_1, .inr (7, [.ref q_4, .ref q_5, .int 0, .int 0, .int 0, .int 0, .int 0, .int 0, .long 0, .int 0, .int 0, .int 0])), (q_4, .inl (cy 0, 940, .inl (fun _ => 0))), (q_5, .inl (cy 2, 28, .inr (.inl g_6))), (q_7, .inr (0, [.null, .null, .null, .int 0, .int 0]))] H := hP
  have hD : va_D A [(x, .inr (9, [.ref q_1, .null, .null, .null, .null, .null, .null, .null, .null, .null, .null, .int 0, .int 0, .int 0, .int 0])), (q_1, .inr (7, [.ref q_4, .ref q_5, .int 0, .int 0, .int 0, .int 0, .int 0, .int 0, .long 0, .int 0, .int 0, .int 0])), (q_4, .inl (cy 0, 940, .inl (fun _ => 0))), (q_5, .inl (cy 2, 28, .inr (.inl g_6))), (q_7, .inr (0, [.null, .null, .null, .int 0, .int 0]))] := hD
  refine W.widen (k := 4) (n := 985) (Nat.le_of_ble_eq_true rfl) (Nat.le_of_ble_eq_true rfl) ?_
  refine lv_dup hx hb dX9_init_19 rfl ?_
  refine endv (wr := [(x, .inr (9, [.ref q_1, .null, .null, .null, .null, .null, .null, .null, .null, .null, .null, .int 0, .int 0, .int 0, .int 0])), (q_1, .inr (7, [.ref q_4, .ref q_5, .int 0, .int 0, .int 0, .int 0, .int 0, .int 0, .long 0, .int 0, .int 0, .int 0])), (q_4, .inl (cy 0, 940, .inl (fun _ => 0))), (q_5, .inl (cy 2, 28, .inr (.inl g_6)))]) (va_runIN (As := []) (rest := [.ref q_7, .ref x]) ⟨hx, hb, hml, hown, hts⟩ (c_Book_init l D cy z H.size q_7) ⟨va_cnB 0 hts (gC tw_140) rfl rfl rfl (va_Nw.of rfl (hSD.nest (args := #[]) tn_138)) (hts _ tw_7) (by decide +kernel) ⟨Nat.le_of_ble_eq_true rfl, Nat.le_of_ble_eq_true rfl⟩, rfl, hts _ tw_139⟩ (preS hP hD hK hSD hS hA [4] rfl (by decide)) rfl rfl hl.1 rfl (lv_room (Nat.le_of_ble_eq_true rfl)) dX9_init_20 ⟨Nat.le_of_ble_eq_true rfl, Nat.le_of_ble_eq_true rfl⟩) hP hD hS hA [4] [0, 1, 2, 3] rfl rfl (by decide) (by decide) (fun u_8 H locs hw_9 hP hD hS => ?_)
  obtain ⟨q_10, q_11, q_12⟩ := u_8
  have hP : va_P D classes [(x, .inr (9, [.ref q_1, .null, .null, .null, .null, .null, .null, .null, .null, .null, .null, .int 0, .int 0, .int 0, .int 0])), (q_1, .inr (7, [.ref q_4, .ref q_5, .int 0, .int 0, .int 0, .int 0, .int 0, .int 0, .long 0, .int 0, .int 0, .int 0])), (q_4, .inl (cy 0, 940, .inl (fun _ => 0))), (q_5, .inl (cy 2, 28, .inr (.inl g_6))), (q_7, .inr (0, [.ref q_10, .ref q_11, .ref q_12, .int 0, .int 0])), (q_10, .inl (cy 1, 40, .inl (fun _ => 0))), (q_11, .inl (cy 1, 40, .inl (fun _ => 0))), (q_12, .inl (cy 1, 40, .inl (fun _ => 0)))] H := hP
  have hD : va_D A [(x, .inr (9, [.ref q_1, .null, .null, .null, .null, .null, .null, .null, .null, .null, .null, .int 0, .int 0, .int 0, .int 0])), (q_1, .inr (7, [.ref q_4, .ref q_5, .int 0, .int 0, .int 0, .int 0, .int 0, .int 0, .long 0, .int 0, .int 0, .int 0])), (q_4, .inl (cy 0, 940, .inl (fun _ => 0))), (q_5, .inl (cy 2, 28, .inr (.inl g_6))), (q_7, .inr (0, [.ref q_10, .ref q_11, .ref q_12, .int 0, .int 0])), (q_10, .inl (cy 1, 40, .inl (fun _ => 0))), (q_11, .inl (cy 1, 40, .inl (fun _ => 0))), (q_12, .inl (cy 1, 40, .inl (fun _ => 0)))] := hD
  refine W.widen (k := 7) (n := 1105) (Nat.le_of_ble_eq_true rfl) (Nat.le_of_ble_eq_true rfl) ?_
  refine va_putF (D := D) (ci := 9) (v := .ref q_7) (ty := .object "WonderParcels$Book") (C := RX9) (T := TX9) (N := 15) hx hb hts inX9 tyX9 tyX9_ok nmX9 hown hK hP hD hS 0 rfl rfl 6 (by decide) (hts _ tw_352) (fun _ h9 => h9) rfl hin rfl (by decide +kernel) rfl rfl (Nat.le_of_ble_eq_true rfl) dX9_init_23 (fun H locs hP hD hS => ?_)
  have hP : va_P D classes [(x, .inr (9, [.ref q_1, .null, .null, .null, .null, .null, .ref q_7, .null, .null, .null, .null, .int 0, .int 0, .int 0, .int 0])), (q_1, .inr (7, [.ref q_4, .ref q_5, .int 0, .int 0, .int 0, .int 0, .int 0, .int 0, .long 0, .int 0, .int 0, .int 0])), (q_4, .inl (cy 0, 940, .inl (fun _ => 0))), (q_5, .inl (cy 2, 28, .inr (.inl g_6))), (q_7, .inr (0, [.ref q_10, .ref q_11, .ref q_12, .int 0, .int 0])), (q_10, .inl (cy 1, 40, .inl (fun _ => 0))), (q_11, .inl (cy 1, 40, .inl (fun _ => 0))), (q_12, .inl (cy 1, 40, .inl (fun _ => 0)))] H := hP
  have hD : va_D A [(x, .inr (9, [.ref q_1, .null, .null, .null, .null, .null, .ref q_7, .null, .null, .null, .null, .int 0, .int 0, .int 0, .int 0])), (q_1, .inr (7, [.ref q_4, .ref q_5, .int 0, .int 0, .int 0, .int 0, .int 0, .int 0, .long 0, .int 0, .int 0, .int 0])), (q_4, .inl (cy 0, 940, .inl (fun _ => 0))), (q_5, .inl (cy 2, 28, .inr (.inl g_6))), (q_7, .inr (0, [.ref q_10, .ref q_11, .ref q_12, .int 0, .int 0])), (q_10, .inl (cy 1, 40, .inl (fun _ => 0))), (q_11, .inl (cy 1, 40, .inl (fun _ => 0))), (q_12, .inl (cy 1, 40, .inl (fun _ => 0)))] := hD
  refine lv_aload_n hx hb dX9_init_26 rfl (lv_at hl 0 rfl) ?_
  refine lv_iconst (v := 4) hx hb dX9_init_27 (by decide) ?_
  refine newaC (atype := .int) (ty := .int) (N' := 4) (a0 := (4, .inl (fun _ => 0))) hx hb (hts _ tw_159) rfl (fun C h => by cases h) hK hP hD hS hA 1 rfl (fun _ => rfl) (by decide) (by decide) (by decide) (Nat.le_of_ble_eq_true rfl) (Nat.le_of_ble_eq_true rfl) dX9_init_28 (fun q_13 H hP hD hS => ?_)
  have hP : va_P D classes [(x, .inr (9, [.ref q_1, .null, .null, .null, .null, .null, .ref q_7, .null, .null, .null, .null, .int 0, .int 0, .int 0, .int 0])), (q_1, .inr (7, [.ref q_4, .ref q_5, .int 0, .int 0, .int 0, .int 0, .int 0, .int 0, .long 0, .int 0, .int 0, .int 0])), (q_4, .inl (cy 0, 940, .inl (fun _ => 0))), (q_5, .inl (cy 2, 28, .inr (.inl g_6))), (q_7, .inr (0, [.ref q_10, .ref q_11, .ref q_12, .int 0, .int 0])), (q_10, .inl (cy 1, 40, .inl (fun _ => 0))), (q_11, .inl (cy 1, 40, .inl (fun _ => 0))), (q_12, .inl (cy 1, 40, .inl (fun _ => 0))), (q_13, .inl (cy 1, 4, .inl (fun _ => 0)))] H := hP
  have hD : va_D A [(x, .inr (9, [.ref q_1, .null, .null, .null, .null, .null, .ref q_7, .null, .null, .null, .null, .int 0, .int 0, .int 0, .int 0])), (q_1, .inr (7, [.ref q_4, .ref q_5, .int 0, .int 0, .int 0, .int 0, .int 0, .int 0, .long 0, .int 0, .int 0, .int 0])), (q_4, .inl (cy 0, 940, .inl (fun _ => 0))), (q_5, .inl (cy 2, 28, .inr (.inl g_6))), (q_7, .inr (0, [.ref q_10, .ref q_11, .ref q_12, .int 0, .int 0])), (q_10, .inl (cy 1, 40, .inl (fun _ => 0))), (q_11, .inl (cy 1, 40, .inl (fun _ => 0))), (q_12, .inl (cy 1, 40, .inl (fun _ => 0))), (q_13, .inl (cy 1, 4, .inl (fun _ => 0)))] := hD
  refine W.widen (k := 8) (n := 1109) (Nat.le_of_ble_eq_true rfl) (Nat.le_of_ble_eq_true rfl) ?_
  refine lv_dup hx hb dX9_init_30 rfl ?_
  refine lv_iconst (v := 0) hx hb dX9_init_31 (by decide) ?_
  refine lv_iconst (v := (-1)) hx hb dX9_init_32 (by decide) ?_
  refine va_iast hx hb hK hP hD hS 8 1 rfl rfl (vp_in_nI (n := 0) (N := 4) (by decide) (by decide)) dX9_init_33 (fun H locs hP hD hS => ?_)
  obtain ⟨g_14, eg_14⟩ : ∃ g, g = upd (fun _ => 0) (Int32.toNatClampNeg 0) (-1) := ⟨_, rfl⟩
  have hP : va_P D classes [(x, .inr (9, [.ref q_1, .null, .null, .null, .null, .null, .ref q_7, .null, .null, .null, .null, .int 0, .int 0, .int 0, .int 0])), (q_1, .inr (7, [.ref q_4, .ref q_5, .int 0, .int 0, .int 0, .int 0, .int 0, .int 0, .long 0, .int 0, .int 0, .int 0])), (q_4, .inl (cy 0, 940, .inl (fun _ => 0))), (q_5, .inl (cy 2, 28, .inr (.inl g_6))), (q_7, .inr (0, [.ref q_10, .ref q_11, .ref q_12, .int 0, .int 0])), (q_10, .inl (cy 1, 40, .inl (fun _ => 0))), (q_11, .inl (cy 1, 40, .inl (fun _ => 0))), (q_12, .inl (cy 1, 40, .inl (fun _ => 0))), (q_13, .inl (cy 1, 4, .inl g_14))] H := by rw [eg_14]; exact hP
  have hD : va_D A [(x, .inr (9, [.ref q_1, .null, .null, .null, .null, .null, .ref q_7, .null, .null, .null, .null, .int 0, .int 0, .int 0, .int 0])), (q_1, .inr (7, [.ref q_4, .ref q_5, .int 0, .int 0, .int 0, .int 0, .int 0, .int 0, .long 0, .int 0, .int 0, .int 0])), (q_4, .inl (cy 0, 940, .inl (fun _ => 0))), (q_5, .inl (cy 2, 28, .inr (.inl g_6))), (q_7, .inr (0, [.ref q_10, .ref q_11, .ref q_12, .int 0, .int 0])), (q_10, .inl (cy 1, 40, .inl (fun _ => 0))), (q_11, .inl (cy 1, 40, .inl (fun _ => 0))), (q_12, .inl (cy 1, 40, .inl (fun _ => 0))), (q_13, .inl (cy 1, 4, .inl g_14))] := by rw [eg_14]; exact hD
  refine lv_dup hx hb dX9_init_34 rfl ?_
  refine lv_iconst (v := 1) hx hb dX9_init_35 (by decide) ?_
  refine lv_iconst (v := (-1)) hx hb dX9_init_36 (by decide) ?_
  refine va_iast hx hb hK hP hD hS 8 1 rfl rfl (vp_in_nI (n := 1) (N := 4) (by decide) (by decide)) dX9_init_37 (fun H locs hP hD hS => ?_)
  obtain ⟨g_15, eg_15⟩ : ∃ g, g = upd g_14 (Int32.toNatClampNeg 1) (-1) := ⟨_, rfl⟩
  have hP : va_P D classes [(x, .inr (9, [.ref q_1, .null, .null, .null, .null, .null, .ref q_7, .null, .null, .null, .null, .int 0, .int 0, .int 0, .int 0])), (q_1, .inr (7, [.ref q_4, .ref q_5, .int 0, .int 0, .int 0, .int 0, .int 0, .int 0, .long 0, .int 0, .int 0, .int 0])), (q_4, .inl (cy 0, 940, .inl (fun _ => 0))), (q_5, .inl (cy 2, 28, .inr (.inl g_6))), (q_7, .inr (0, [.ref q_10, .ref q_11, .ref q_12, .int 0, .int 0])), (q_10, .inl (cy 1, 40, .inl (fun _ => 0))), (q_11, .inl (cy 1, 40, .inl (fun _ => 0))), (q_12, .inl (cy 1, 40, .inl (fun _ => 0))), (q_13, .inl (cy 1, 4, .inl g_15))] H := by rw [eg_15]; exact hP
  have hD : va_D A [(x, .inr (9, [.ref q_1, .null, .null, .null, .null, .null, .ref q_7, .null, .null, .null, .null, .int 0, .int 0, .int 0, .int 0])), (q_1, .inr (7, [.ref q_4, .ref q_5, .int 0, .int 0, .int 0, .int 0, .int 0, .int 0, .long 0, .int 0, .int 0, .int 0])), (q_4, .inl (cy 0, 940, .inl (fun _ => 0))), (q_5, .inl (cy 2, 28, .inr (.inl g_6))), (q_7, .inr (0, [.ref q_10, .ref q_11, .ref q_12, .int 0, .int 0])), (q_10, .inl (cy 1, 40, .inl (fun _ => 0))), (q_11, .inl (cy 1, 40, .inl (fun _ => 0))), (q_12, .inl (cy 1, 40, .inl (fun _ => 0))), (q_13, .inl (cy 1, 4, .inl g_15))] := by rw [eg_15]; exact hD
  refine lv_dup hx hb dX9_init_38 rfl ?_
  refine lv_iconst (v := 2) hx hb dX9_init_39 (by decide) ?_
  refine lv_iconst (v := (-1)) hx hb dX9_init_40 (by decide) ?_
  refine va_iast hx hb hK hP hD hS 8 1 rfl rfl (vp_in_nI (n := 2) (N := 4) (by decide) (by decide)) dX9_init_41 (fun H locs hP hD hS => ?_)
  obtain ⟨g_16, eg_16⟩ : ∃ g, g = upd g_15 (Int32.toNatClampNeg 2) (-1) := ⟨_, rfl⟩
  have hP : va_P D classes [(x, .inr (9, [.ref q_1, .null, .null, .null, .null, .null, .ref q_7, .null, .null, .null, .null, .int 0, .int 0, .int 0, .int 0])), (q_1, .inr (7, [.ref q_4, .ref q_5, .int 0, .int 0, .int 0, .int 0, .int 0, .int 0, .long 0, .int 0, .int 0, .int 0])), (q_4, .inl (cy 0, 940, .inl (fun _ => 0))), (q_5, .inl (cy 2, 28, .inr (.inl g_6))), (q_7, .inr (0, [.ref q_10, .ref q_11, .ref q_12, .int 0, .int 0])), (q_10, .inl (cy 1, 40, .inl (fun _ => 0))), (q_11, .inl (cy 1, 40, .inl (fun _ => 0))), (q_12, .inl (cy 1, 40, .inl (fun _ => 0))), (q_13, .inl (cy 1, 4, .inl g_16))] H := by rw [eg_16]; exact hP
  have hD : va_D A [(x, .inr (9, [.ref q_1, .null, .null, .null, .null, .null, .ref q_7, .null, .null, .null, .null, .int 0, .int 0, .int 0, .int 0])), (q_1, .inr (7, [.ref q_4, .ref q_5, .int 0, .int 0, .int 0, .int 0, .int 0, .int 0, .long 0, .int 0, .int 0, .int 0])), (q_4, .inl (cy 0, 940, .inl (fun _ => 0))), (q_5, .inl (cy 2, 28, .inr (.inl g_6))), (q_7, .inr (0, [.ref q_10, .ref q_11, .ref q_12, .int 0, .int 0])), (q_10, .inl (cy 1, 40, .inl (fun _ => 0))), (q_11, .inl (cy 1, 40, .inl (fun _ => 0))), (q_12, .inl (cy 1, 40, .inl (fun _ => 0))), (q_13, .inl (cy 1, 4, .inl g_16))] := by rw [eg_16]; exact hD
  refine lv_dup hx hb dX9_init_42 rfl ?_
  refine lv_iconst (v := 3) hx hb dX9_init_43 (by decide) ?_
  refine lv_iconst (v := (-1)) hx hb dX9_init_44 (by decide) ?_
  refine va_iast hx hb hK hP hD hS 8 1 rfl rfl (vp_in_nI (n := 3) (N := 4) (by decide) (by decide)) dX9_init_45 (fun H locs hP hD hS => ?_)
  obtain ⟨g_17, eg_17⟩ : ∃ g, g = upd g_16 (Int32.toNatClampNeg 3) (-1) := ⟨_, rfl⟩
  have hP : va_P D classes [(x, .inr (9, [.ref q_1, .null, .null, .null, .null, .null, .ref q_7, .null, .null, .null, .null, .int 0, .int 0, .int 0, .int 0])), (q_1, .inr (7, [.ref q_4, .ref q_5, .int 0, .int 0, .int 0, .int 0, .int 0, .int 0, .long 0, .int 0, .int 0, .int 0])), (q_4, .inl (cy 0, 940, .inl (fun _ => 0))), (q_5, .inl (cy 2, 28, .inr (.inl g_6))), (q_7, .inr (0, [.ref q_10, .ref q_11, .ref q_12, .int 0, .int 0])), (q_10, .inl (cy 1, 40, .inl (fun _ => 0))), (q_11, .inl (cy 1, 40, .inl (fun _ => 0))), (q_12, .inl (cy 1, 40, .inl (fun _ => 0))), (q_13, .inl (cy 1, 4, .inl g_17))] H := by rw [eg_17]; exact hP
  have hD : va_D A [(x, .inr (9, [.ref q_1, .null, .null, .null, .null, .null, .ref q_7, .null, .null, .null, .null, .int 0, .int 0, .int 0, .int 0])), (q_1, .inr (7, [.ref q_4, .ref q_5, .int 0, .int 0, .int 0, .int 0, .int 0, .int 0, .long 0, .int 0, .int 0, .int 0])), (q_4, .inl (cy 0, 940, .inl (fun _ => 0))), (q_5, .inl (cy 2, 28, .inr (.inl g_6))), (q_7, .inr (0, [.ref q_10, .ref q_11, .ref q_12, .int 0, .int 0])), (q_10, .inl (cy 1, 40, .inl (fun _ => 0))), (q_11, .inl (cy 1, 40, .inl (fun _ => 0))), (q_12, .inl (cy 1, 40, .inl (fun _ => 0))), (q_13, .inl (cy 1, 4, .inl g_17))] := by rw [eg_17]; exact hD
  refine va_putF (D := D) (ci := 9) (v := .ref q_13) (ty := .array .int) (C := RX9) (T := TX9) (N := 15) hx hb hts inX9 tyX9 tyX9_ok nmX9 hown hK hP hD hS 0 rfl rfl 7 (by decide) (hts _ tw_353) (fun _ h9 => h9) rfl hin rfl (by decide +kernel) rfl rfl (Nat.le_of_ble_eq_true rfl) dX9_init_46 (fun H locs hP hD hS => ?_)
  have hP : va_P D classes [(x, .inr (9, [.ref q_1, .null, .null, .null, .null, .null, .ref q_7, .ref q_13, .null, .null, .null, .int 0, .int 0, .int 0, .int 0])), (q_1, .inr (7, [.ref q_4, .ref q_5, .int 0, .int 0, .int 0, .int 0, .int 0, .int 0, .long 0, .int 0, .int 0, .int 0])), (q_4, .inl (cy 0, 940, .inl (fun _ => 0))), (q_5, .inl (cy 2, 28, .inr (.inl g_6))), (q_7, .inr (0, [.ref q_10, .ref q_11, .ref q_12, .int 0, .int 0])), (q_10, .inl (cy 1, 40, .inl (fun _ => 0))), (q_11, .inl (cy 1, 40, .inl (fun _ => 0))), (q_12, .inl (cy 1, 40, .inl (fun _ => 0))), (q_13, .inl (cy 1, 4, .inl g_17))] H := hP
  have hD : va_D A [(x, .inr (9, [.ref q_1, .null, .null, .null, .null, .null, .ref q_7, .ref q_13, .null, .null, .null, .int 0, .int 0, .int 0, .int 0])), (q_1, .inr (7, [.ref q_4, .ref q_5, .int 0, .int 0, .int 0, .int 0, .int 0, .int 0, .long 0, .int 0, .int 0, .int 0])), (q_4, .inl (cy 0, 940, .inl (fun _ => 0))), (q_5, .inl (cy 2, 28, .inr (.inl g_6))), (q_7, .inr (0, [.ref q_10, .ref q_11, .ref q_12, .int 0, .int 0])), (q_10, .inl (cy 1, 40, .inl (fun _ => 0))), (q_11, .inl (cy 1, 40, .inl (fun _ => 0))), (q_12, .inl (cy 1, 40, .inl (fun _ => 0))), (q_13, .inl (cy 1, 4, .inl g_17))] := hD
  refine lv_aload_n hx hb dX9_init_49 rfl (lv_at hl 0 rfl) ?_
  refine va_new (ci := 4) (fs := [.null, .null]) (C := RX4) (T := TX4) (N := 2) hx hb hts inX4 tyX4 tyX4_ok hown (hts _ tw_160) (hts _ tw_161) (hts _ tw_8) hK hP hD hS hA rfl (dfX4) (Nat.le_of_ble_eq_true rfl) (Nat.le_of_ble_eq_true rfl) dX9_init_50 (fun q_18 H hP hD hS => ?_)
  have hP : va_P D classes [(x, .inr (9, [.ref q_1, .null, .null, .null, .null, .null, .ref q_7, .ref q_13, .null, .null, .null, .int 0, .int 0, .int 0, .int 0])), (q_1, .inr (7, [.ref q_4, .ref q_5, .int 0, .int 0, .int 0, .int 0, .int 0, .int 0, .long 0, .int 0, .int 0, .int 0])), (q_4, .inl (cy 0, 940, .inl (fun _ => 0))), (q_5, .inl (cy 2, 28, .inr (.inl g_6))), (q_7, .inr (0, [.ref q_10, .ref q_11, .ref q_12, .int 0, .int 0])), (q_10, .inl (cy 1, 40, .inl (fun _ => 0))), (q_11, .inl (cy 1, 40, .inl (fun _ => 0))), (q_12, .inl (cy 1, 40, .inl (fun _ => 0))), (q_13, .inl (cy 1, 4, .inl g_17)), (q_18, .inr (4, [.null, .null]))] H := hP
  have hD : va_D A [(x, .inr (9, [.ref q_1, .null, .null, .null, .null, .null, .ref q_7, .ref q_13, .null, .null, .null, .int 0, .int 0, .int 0, .int 0])), (q_1, .inr (7, [.ref q_4, .ref q_5, .int 0, .int 0, .int 0, .int 0, .int 0, .int 0, .long 0, .int 0, .int 0, .int 0])), (q_4, .inl (cy 0, 940, .inl (fun _ => 0))), (q_5, .inl (cy 2, 28, .inr (.inl g_6))), (q_7, .inr (0, [.ref q_10, .ref q_11, .ref q_12, .int 0, .int 0])), (q_10, .inl (cy 1, 40, .inl (fun _ => 0))), (q_11, .inl (cy 1, 40, .inl (fun _ => 0))), (q_12, .inl (cy 1, 40, .inl (fun _ => 0))), (q_13, .inl (cy 1, 4, .inl g_17)), (q_18, .inr (4, [.null, .null]))] := hD
  refine W.widen (k := 9) (n := 1111) (Nat.le_of_ble_eq_true rfl) (Nat.le_of_ble_eq_true rfl) ?_
  refine lv_dup hx hb dX9_init_53 rfl ?_
  refine endv (wr := [(x, .inr (9, [.ref q_1, .null, .null, .null, .null, .null, .ref q_7, .ref q_13, .null, .null, .null, .int 0, .int 0, .int 0, .int 0])), (q_1, .inr (7, [.ref q_4, .ref q_5, .int 0, .int 0, .int 0, .int 0, .int 0, .int 0, .long 0, .int 0, .int 0, .int 0])), (q_4, .inl (cy 0, 940, .inl (fun _ => 0))), (q_5, .inl (cy 2, 28, .inr (.inl g_6))), (q_7, .inr (0, [.ref q_10, .ref q_11, .ref q_12, .int 0, .int 0])), (q_10, .inl (cy 1, 40, .inl (fun _ => 0))), (q_11, .inl (cy 1, 40, .inl (fun _ => 0))), (q_12, .inl (cy 1, 40, .inl (fun _ => 0))), (q_13, .inl (cy 1, 4, .inl g_17))]) (va_runI (As := []) (rest := [.ref q_18, .ref x]) ⟨hx, hb, hml, hown, hts⟩ (c_Rooms_init l D cy z H.size q_18) (cwI 0 hts (gC tw_164) rfl rfl rfl (hts _ tw_8) (hts _ tw_162) (hts _ tw_163) rfl (by decide +kernel) ⟨Nat.le_of_ble_eq_true rfl, Nat.le_of_ble_eq_true rfl⟩) (preS hP hD hK hSD hS hA [9] rfl (by decide)) rfl rfl hl.1 rfl (lv_room (Nat.le_of_ble_eq_true rfl)) dX9_init_54 ⟨Nat.le_of_ble_eq_true rfl, Nat.le_of_ble_eq_true rfl⟩) hP hD hS hA [9] [0, 1, 2, 3, 4, 5, 6, 7, 8] rfl rfl (by decide) (by decide) (fun u_19 H locs hw_20 hP hD hS => ?_)
  obtain ⟨q_21, q_22⟩ := u_19
  have hP : va_P D classes [(x, .inr (9, [.ref q_1, .null, .null, .null, .null, .null, .ref q_7, .ref q_13, .null, .null, .null, .int 0, .int 0, .int 0, .int 0])), (q_1, .inr (7, [.ref q_4, .ref q_5, .int 0, .int 0, .int 0, .int 0, .int 0, .int 0, .long 0, .int 0, .int 0, .int 0])), (q_4, .inl (cy 0, 940, .inl (fun _ => 0))), (q_5, .inl (cy 2, 28, .inr (.inl g_6))), (q_7, .inr (0, [.ref q_10, .ref q_11, .ref q_12, .int 0, .int 0])), (q_10, .inl (cy 1, 40, .inl (fun _ => 0))), (q_11, .inl (cy 1, 40, .inl (fun _ => 0))), (q_12, .inl (cy 1, 40, .inl (fun _ => 0))), (q_13, .inl (cy 1, 4, .inl g_17)), (q_18, .inr (4, [.ref q_21, .ref q_22])), (q_21, .inl (cy 1, 6, .inl (fun _ => 0))), (q_22, .inl (cy 1, 6, .inl (fun _ => (-1))))] H := hP
  have hD : va_D A [(x, .inr (9, [.ref q_1, .null, .null, .null, .null, .null, .ref q_7, .ref q_13, .null, .null, .null, .int 0, .int 0, .int 0, .int 0])), (q_1, .inr (7, [.ref q_4, .ref q_5, .int 0, .int 0, .int 0, .int 0, .int 0, .int 0, .long 0, .int 0, .int 0, .int 0])), (q_4, .inl (cy 0, 940, .inl (fun _ => 0))), (q_5, .inl (cy 2, 28, .inr (.inl g_6))), (q_7, .inr (0, [.ref q_10, .ref q_11, .ref q_12, .int 0, .int 0])), (q_10, .inl (cy 1, 40, .inl (fun _ => 0))), (q_11, .inl (cy 1, 40, .inl (fun _ => 0))), (q_12, .inl (cy 1, 40, .inl (fun _ => 0))), (q_13, .inl (cy 1, 4, .inl g_17)), (q_18, .inr (4, [.ref q_21, .ref q_22])), (q_21, .inl (cy 1, 6, .inl (fun _ => 0))), (q_22, .inl (cy 1, 6, .inl (fun _ => (-1))))] := hD
  refine W.widen (k := 11) (n := 1123) (Nat.le_of_ble_eq_true rfl) (Nat.le_of_ble_eq_true rfl) ?_
  refine va_putF (D := D) (ci := 9) (v := .ref q_18) (ty := .object "WonderParcels$Rooms") (C := RX9) (T := TX9) (N := 15) hx hb hts inX9 tyX9 tyX9_ok nmX9 hown hK hP hD hS 0 rfl rfl 8 (by decide) (hts _ tw_354) (fun _ h9 => h9) rfl hin rfl (by decide +kernel) rfl rfl (Nat.le_of_ble_eq_true rfl) dX9_init_57 (fun H locs hP hD hS => ?_)
  have hP : va_P D classes [(x, .inr (9, [.ref q_1, .null, .null, .null, .null, .null, .ref q_7, .ref q_13, .ref q_18, .null, .null, .int 0, .int 0, .int 0, .int 0])), (q_1, .inr (7, [.ref q_4, .ref q_5, .int 0, .int 0, .int 0, .int 0, .int 0, .int 0, .long 0, .int 0, .int 0, .int 0])), (q_4, .inl (cy 0, 940, .inl (fun _ => 0))), (q_5, .inl (cy 2, 28, .inr (.inl g_6))), (q_7, .inr (0, [.ref q_10, .ref q_11, .ref q_12, .int 0, .int 0])), (q_10, .inl (cy 1, 40, .inl (fun _ => 0))), (q_11, .inl (cy 1, 40, .inl (fun _ => 0))), (q_12, .inl (cy 1, 40, .inl (fun _ => 0))), (q_13, .inl (cy 1, 4, .inl g_17)), (q_18, .inr (4, [.ref q_21, .ref q_22])), (q_21, .inl (cy 1, 6, .inl (fun _ => 0))), (q_22, .inl (cy 1, 6, .inl (fun _ => (-1))))] H := hP
  have hD : va_D A [(x, .inr (9, [.ref q_1, .null, .null, .null, .null, .null, .ref q_7, .ref q_13, .ref q_18, .null, .null, .int 0, .int 0, .int 0, .int 0])), (q_1, .inr (7, [.ref q_4, .ref q_5, .int 0, .int 0, .int 0, .int 0, .int 0, .int 0, .long 0, .int 0, .int 0, .int 0])), (q_4, .inl (cy 0, 940, .inl (fun _ => 0))), (q_5, .inl (cy 2, 28, .inr (.inl g_6))), (q_7, .inr (0, [.ref q_10, .ref q_11, .ref q_12, .int 0, .int 0])), (q_10, .inl (cy 1, 40, .inl (fun _ => 0))), (q_11, .inl (cy 1, 40, .inl (fun _ => 0))), (q_12, .inl (cy 1, 40, .inl (fun _ => 0))), (q_13, .inl (cy 1, 4, .inl g_17)), (q_18, .inr (4, [.ref q_21, .ref q_22])), (q_21, .inl (cy 1, 6, .inl (fun _ => 0))), (q_22, .inl (cy 1, 6, .inl (fun _ => (-1))))] := hD
  refine lv_aload_n hx hb dX9_init_60 rfl (lv_at hl 0 rfl) ?_
  refine lv_bipush (v := 8) hx hb dX9_init_61 (by decide) ?_
  refine newaC (atype := .int) (ty := .int) (N' := 8) (a0 := (8, .inl (fun _ => 0))) hx hb (hts _ tw_159) rfl (fun C h => by cases h) hK hP hD hS hA 1 rfl (fun _ => rfl) (by decide) (by decide) (by decide) (Nat.le_of_ble_eq_true rfl) (Nat.le_of_ble_eq_true rfl) dX9_init_63 (fun q_23 H hP hD hS => ?_)
  have hP : va_P D classes [(x, .inr (9, [.ref q_1, .null, .null, .null, .null, .null, .ref q_7, .ref q_13, .ref q_18, .null, .null, .int 0, .int 0, .int 0, .int 0])), (q_1, .inr (7, [.ref q_4, .ref q_5, .int 0, .int 0, .int 0, .int 0, .int 0, .int 0, .long 0, .int 0, .int 0, .int 0])), (q_4, .inl (cy 0, 940, .inl (fun _ => 0))), (q_5, .inl (cy 2, 28, .inr (.inl g_6))), (q_7, .inr (0, [.ref q_10, .ref q_11, .ref q_12, .int 0, .int 0])), (q_10, .inl (cy 1, 40, .inl (fun _ => 0))), (q_11, .inl (cy 1, 40, .inl (fun _ => 0))), (q_12, .inl (cy 1, 40, .inl (fun _ => 0))), (q_13, .inl (cy 1, 4, .inl g_17)), (q_18, .inr (4, [.ref q_21, .ref q_22])), (q_21, .inl (cy 1, 6, .inl (fun _ => 0))), (q_22, .inl (cy 1, 6, .inl (fun _ => (-1)))), (q_23, .inl (cy 1, 8, .inl (fun _ => 0)))] H := hP
  have hD : va_D A [(x, .inr (9, [.ref q_1, .null, .null, .null, .null, .null, .ref q_7, .ref q_13, .ref q_18, .null, .null, .int 0, .int 0, .int 0, .int 0])), (q_1, .inr (7, [.ref q_4, .ref q_5, .int 0, .int 0, .int 0, .int 0, .int 0, .int 0, .long 0, .int 0, .int 0, .int 0])), (q_4, .inl (cy 0, 940, .inl (fun _ => 0))), (q_5, .inl (cy 2, 28, .inr (.inl g_6))), (q_7, .inr (0, [.ref q_10, .ref q_11, .ref q_12, .int 0, .int 0])), (q_10, .inl (cy 1, 40, .inl (fun _ => 0))), (q_11, .inl (cy 1, 40, .inl (fun _ => 0))), (q_12, .inl (cy 1, 40, .inl (fun _ => 0))), (q_13, .inl (cy 1, 4, .inl g_17)), (q_18, .inr (4, [.ref q_21, .ref q_22])), (q_21, .inl (cy 1, 6, .inl (fun _ => 0))), (q_22, .inl (cy 1, 6, .inl (fun _ => (-1)))), (q_23, .inl (cy 1, 8, .inl (fun _ => 0)))] := hD
  refine W.widen (k := 12) (n := 1131) (Nat.le_of_ble_eq_true rfl) (Nat.le_of_ble_eq_true rfl) ?_
  refine va_putF (D := D) (ci := 9) (v := .ref q_23) (ty := .array .int) (C := RX9) (T := TX9) (N := 15) hx hb hts inX9 tyX9 tyX9_ok nmX9 hown hK hP hD hS 0 rfl rfl 9 (by decide) (hts _ tw_355) (fun _ h9 => h9) rfl hin rfl (by decide +kernel) rfl rfl (Nat.le_of_ble_eq_true rfl) dX9_init_65 (fun H locs hP hD hS => ?_)
  have hP : va_P D classes [(x, .inr (9, [.ref q_1, .null, .null, .null, .null, .null, .ref q_7, .ref q_13, .ref q_18, .ref q_23, .null, .int 0, .int 0, .int 0, .int 0])), (q_1, .inr (7, [.ref q_4, .ref q_5, .int 0, .int 0, .int 0, .int 0, .int 0, .int 0, .long 0, .int 0, .int 0, .int 0])), (q_4, .inl (cy 0, 940, .inl (fun _ => 0))), (q_5, .inl (cy 2, 28, .inr (.inl g_6))), (q_7, .inr (0, [.ref q_10, .ref q_11, .ref q_12, .int 0, .int 0])), (q_10, .inl (cy 1, 40, .inl (fun _ => 0))), (q_11, .inl (cy 1, 40, .inl (fun _ => 0))), (q_12, .inl (cy 1, 40, .inl (fun _ => 0))), (q_13, .inl (cy 1, 4, .inl g_17)), (q_18, .inr (4, [.ref q_21, .ref q_22])), (q_21, .inl (cy 1, 6, .inl (fun _ => 0))), (q_22, .inl (cy 1, 6, .inl (fun _ => (-1)))), (q_23, .inl (cy 1, 8, .inl (fun _ => 0)))] H := hP
  have hD : va_D A [(x, .inr (9, [.ref q_1, .null, .null, .null, .null, .null, .ref q_7, .ref q_13, .ref q_18, .ref q_23, .null, .int 0, .int 0, .int 0, .int 0])), (q_1, .inr (7, [.ref q_4, .ref q_5, .int 0, .int 0, .int 0, .int 0, .int 0, .int 0, .long 0, .int 0, .int 0, .int 0])), (q_4, .inl (cy 0, 940, .inl (fun _ => 0))), (q_5, .inl (cy 2, 28, .inr (.inl g_6))), (q_7, .inr (0, [.ref q_10, .ref q_11, .ref q_12, .int 0, .int 0])), (q_10, .inl (cy 1, 40, .inl (fun _ => 0))), (q_11, .inl (cy 1, 40, .inl (fun _ => 0))), (q_12, .inl (cy 1, 40, .inl (fun _ => 0))), (q_13, .inl (cy 1, 4, .inl g_17)), (q_18, .inr (4, [.ref q_21, .ref q_22])), (q_21, .inl (cy 1, 6, .inl (fun _ => 0))), (q_22, .inl (cy 1, 6, .inl (fun _ => (-1)))), (q_23, .inl (cy 1, 8, .inl (fun _ => 0)))] := hD
  refine lv_aload_n hx hb dX9_init_68 rfl (lv_at hl 0 rfl) ?_
  refine va_new (ci := 6) (fs := [.null, .int 0]) (C := RX6) (T := TX6) (N := 2) hx hb hts inX6 tyX6 tyX6_ok hown (hts _ tw_177) (hts _ tw_178) (hts _ tw_10) hK hP hD hS hA rfl (dfX6) (Nat.le_of_ble_eq_true rfl) (Nat.le_of_ble_eq_true rfl) dX9_init_69 (fun q_24 H hP hD hS => ?_)
  have hP : va_P D classes [(x, .inr (9, [.ref q_1, .null, .null, .null, .null, .null, .ref q_7, .ref q_13, .ref q_18, .ref q_23, .null, .int 0, .int 0, .int 0, .int 0])), (q_1, .inr (7, [.ref q_4, .ref q_5, .int 0, .int 0, .int 0, .int 0, .int 0, .int 0, .long 0, .int 0, .int 0, .int 0])), (q_4, .inl (cy 0, 940, .inl (fun _ => 0))), (q_5, .inl (cy 2, 28, .inr (.inl g_6))), (q_7, .inr (0, [.ref q_10, .ref q_11, .ref q_12, .int 0, .int 0])), (q_10, .inl (cy 1, 40, .inl (fun _ => 0))), (q_11, .inl (cy 1, 40, .inl (fun _ => 0))), (q_12, .inl (cy 1, 40, .inl (fun _ => 0))), (q_13, .inl (cy 1, 4, .inl g_17)), (q_18, .inr (4, [.ref q_21, .ref q_22])), (q_21, .inl (cy 1, 6, .inl (fun _ => 0))), (q_22, .inl (cy 1, 6, .inl (fun _ => (-1)))), (q_23, .inl (cy 1, 8, .inl (fun _ => 0))), (q_24, .inr (6, [.null, .int 0]))] H := hP
  have hD : va_D A [(x, .inr (9, [.ref q_1, .null, .null, .null, .null, .null, .ref q_7, .ref q_13, .ref q_18, .ref q_23, .null, .int 0, .int 0, .int 0, .int 0])), (q_1, .inr (7, [.ref q_4, .ref q_5, .int 0, .int 0, .int 0, .int 0, .int 0, .int 0, .long 0, .int 0, .int 0, .int 0])), (q_4, .inl (cy 0, 940, .inl (fun _ => 0))), (q_5, .inl (cy 2, 28, .inr (.inl g_6))), (q_7, .inr (0, [.ref q_10, .ref q_11, .ref q_12, .int 0, .int 0])), (q_10, .inl (cy 1, 40, .inl (fun _ => 0))), (q_11, .inl (cy 1, 40, .inl (fun _ => 0))), (q_12, .inl (cy 1, 40, .inl (fun _ => 0))), (q_13, .inl (cy 1, 4, .inl g_17)), (q_18, .inr (4, [.ref q_21, .ref q_22])), (q_21, .inl (cy 1, 6, .inl (fun _ => 0))), (q_22, .inl (cy 1, 6, .inl (fun _ => (-1)))), (q_23, .inl (cy 1, 8, .inl (fun _ => 0))), (q_24, .inr (6, [.null, .int 0]))] := hD
  refine W.widen (k := 13) (n := 1133) (Nat.le_of_ble_eq_true rfl) (Nat.le_of_ble_eq_true rfl) ?_
  refine lv_dup hx hb dX9_init_72 rfl ?_
  refine endv (wr := [(x, .inr (9, [.ref q_1, .null, .null, .null, .null, .null, .ref q_7, .ref q_13, .ref q_18, .ref q_23, .null, .int 0, .int 0, .int 0, .int 0])), (q_1, .inr (7, [.ref q_4, .ref q_5, .int 0, .int 0, .int 0, .int 0, .int 0, .int 0, .long 0, .int 0, .int 0, .int 0])), (q_4, .inl (cy 0, 940, .inl (fun _ => 0))), (q_5, .inl (cy 2, 28, .inr (.inl g_6))), (q_7, .inr (0, [.ref q_10, .ref q_11, .ref q_12, .int 0, .int 0])), (q_10, .inl (cy 1, 40, .inl (fun _ => 0))), (q_11, .inl (cy 1, 40, .inl (fun _ => 0))), (q_12, .inl (cy 1, 40, .inl (fun _ => 0))), (q_13, .inl (cy 1, 4, .inl g_17)), (q_18, .inr (4, [.ref q_21, .ref q_22])), (q_21, .inl (cy 1, 6, .inl (fun _ => 0))), (q_22, .inl (cy 1, 6, .inl (fun _ => (-1)))), (q_23, .inl (cy 1, 8, .inl (fun _ => 0)))]) (va_runIN (As := []) (rest := [.ref q_24, .ref x]) ⟨hx, hb, hml, hown, hts⟩ (c_Tag_init l D cy z H.size q_24) ⟨va_cnB 0 hts (gC tw_181) rfl rfl rfl (va_Nw.of rfl (hSD.nest (args := #[]) tn_179)) (hts _ tw_10) (by decide +kernel) ⟨Nat.le_of_ble_eq_true rfl, Nat.le_of_ble_eq_true rfl⟩, rfl, hts _ tw_180⟩ (preS hP hD hK hSD hS hA [13] rfl (by decide)) rfl rfl hl.1 rfl (lv_room (Nat.le_of_ble_eq_true rfl)) dX9_init_73 ⟨Nat.le_of_ble_eq_true rfl, Nat.le_of_ble_eq_true rfl⟩) hP hD hS hA [13] [0, 1, 2, 3, 4, 5, 6, 7, 8, 9, 10, 11, 12] rfl rfl (by decide) (by decide) (fun u_25 H locs hw_26 hP hD hS => ?_)
  obtain ⟨q_27, rfl⟩ : ∃ q9, q9 = u_25 := ⟨_, rfl⟩
  have hP : va_P D classes [(x, .inr (9, [.ref q_1, .null, .null, .null, .null, .null, .ref q_7, .ref q_13, .ref q_18, .ref q_23, .null, .int 0, .int 0, .int 0, .int 0])), (q_1, .inr (7, [.ref q_4, .ref q_5, .int 0, .int 0, .int 0, .int 0, .int 0, .int 0, .long 0, .int 0, .int 0, .int 0])), (q_4, .inl (cy 0, 940, .inl (fun _ => 0))), (q_5, .inl (cy 2, 28, .inr (.inl g_6))), (q_7, .inr (0, [.ref q_10, .ref q_11, .ref q_12, .int 0, .int 0])), (q_10, .inl (cy 1, 40, .inl (fun _ => 0))), (q_11, .inl (cy 1, 40, .inl (fun _ => 0))), (q_12, .inl (cy 1, 40, .inl (fun _ => 0))), (q_13, .inl (cy 1, 4, .inl g_17)), (q_18, .inr (4, [.ref q_21, .ref q_22])), (q_21, .inl (cy 1, 6, .inl (fun _ => 0))), (q_22, .inl (cy 1, 6, .inl (fun _ => (-1)))), (q_23, .inl (cy 1, 8, .inl (fun _ => 0))), (q_24, .inr (6, [.ref q_27, .int 0])), (q_27, .inl (cy 0, 26, .inl (fun _ => 0)))] H := hP
  have hD : va_D A [(x, .inr (9, [.ref q_1, .null, .null, .null, .null, .null, .ref q_7, .ref q_13, .ref q_18, .ref q_23, .null, .int 0, .int 0, .int 0, .int 0])), (q_1, .inr (7, [.ref q_4, .ref q_5, .int 0, .int 0, .int 0, .int 0, .int 0, .int 0, .long 0, .int 0, .int 0, .int 0])), (q_4, .inl (cy 0, 940, .inl (fun _ => 0))), (q_5, .inl (cy 2, 28, .inr (.inl g_6))), (q_7, .inr (0, [.ref q_10, .ref q_11, .ref q_12, .int 0, .int 0])), (q_10, .inl (cy 1, 40, .inl (fun _ => 0))), (q_11, .inl (cy 1, 40, .inl (fun _ => 0))), (q_12, .inl (cy 1, 40, .inl (fun _ => 0))), (q_13, .inl (cy 1, 4, .inl g_17)), (q_18, .inr (4, [.ref q_21, .ref q_22])), (q_21, .inl (cy 1, 6, .inl (fun _ => 0))), (q_22, .inl (cy 1, 6, .inl (fun _ => (-1)))), (q_23, .inl (cy 1, 8, .inl (fun _ => 0))), (q_24, .inr (6, [.ref q_27, .int 0])), (q_27, .inl (cy 0, 26, .inl (fun _ => 0)))] := hD
  refine W.widen (k := 14) (n := 1159) (Nat.le_of_ble_eq_true rfl) (Nat.le_of_ble_eq_true rfl) ?_
  refine va_putF (D := D) (ci := 9) (v := .ref q_24) (ty := .object "WonderParcels$Tag") (C := RX9) (T := TX9) (N := 15) hx hb hts inX9 tyX9 tyX9_ok nmX9 hown hK hP hD hS 0 rfl rfl 10 (by decide) (hts _ tw_356) (fun _ h9 => h9) rfl hin rfl (by decide +kernel) rfl rfl (Nat.le_of_ble_eq_true rfl) dX9_init_76 (fun H locs hP hD hS => ?_)
  have hP : va_P D classes [(x, .inr (9, [.ref q_1, .null, .null, .null, .null, .null, .ref q_7, .ref q_13, .ref q_18, .ref q_23, .ref q_24, .int 0, .int 0, .int 0, .int 0])), (q_1, .inr (7, [.ref q_4, .ref q_5, .int 0, .int 0, .int 0, .int 0, .int 0, .int 0, .long 0, .int 0, .int 0, .int 0])), (q_4, .inl (cy 0, 940, .inl (fun _ => 0))), (q_5, .inl (cy 2, 28, .inr (.inl g_6))), (q_7, .inr (0, [.ref q_10, .ref q_11, .ref q_12, .int 0, .int 0])), (q_10, .inl (cy 1, 40, .inl (fun _ => 0))), (q_11, .inl (cy 1, 40, .inl (fun _ => 0))), (q_12, .inl (cy 1, 40, .inl (fun _ => 0))), (q_13, .inl (cy 1, 4, .inl g_17)), (q_18, .inr (4, [.ref q_21, .ref q_22])), (q_21, .inl (cy 1, 6, .inl (fun _ => 0))), (q_22, .inl (cy 1, 6, .inl (fun _ => (-1)))), (q_23, .inl (cy 1, 8, .inl (fun _ => 0))), (q_24, .inr (6, [.ref q_27, .int 0])), (q_27, .inl (cy 0, 26, .inl (fun _ => 0)))] H := hP
  have hD : va_D A [(x, .inr (9, [.ref q_1, .null, .null, .null, .null, .null, .ref q_7, .ref q_13, .ref q_18, .ref q_23, .ref q_24, .int 0, .int 0, .int 0, .int 0])), (q_1, .inr (7, [.ref q_4, .ref q_5, .int 0, .int 0, .int 0, .int 0, .int 0, .int 0, .long 0, .int 0, .int 0, .int 0])), (q_4, .inl (cy 0, 940, .inl (fun _ => 0))), (q_5, .inl (cy 2, 28, .inr (.inl g_6))), (q_7, .inr (0, [.ref q_10, .ref q_11, .ref q_12, .int 0, .int 0])), (q_10, .inl (cy 1, 40, .inl (fun _ => 0))), (q_11, .inl (cy 1, 40, .inl (fun _ => 0))), (q_12, .inl (cy 1, 40, .inl (fun _ => 0))), (q_13, .inl (cy 1, 4, .inl g_17)), (q_18, .inr (4, [.ref q_21, .ref q_22])), (q_21, .inl (cy 1, 6, .inl (fun _ => 0))), (q_22, .inl (cy 1, 6, .inl (fun _ => (-1)))), (q_23, .inl (cy 1, 8, .inl (fun _ => 0))), (q_24, .inr (6, [.ref q_27, .int 0])), (q_27, .inl (cy 0, 26, .inl (fun _ => 0)))] := hD
  refine lv_aload_n hx hb dX9_init_79 rfl (lv_at hl 0 rfl) ?_
  refine lv_iconst (v := 0) hx hb dX9_init_80 (by decide) ?_
  refine va_put (D := D) (ci := 9) (v := .int 0) (ty := .int) (C := RX9) (T := TX9) (N := 15) hx hb hts inX9 tyX9 tyX9_ok nmX9 hown hK hP hD hS 0 rfl rfl 11 (by decide) (hts _ tw_357) (fun _ h9 => h9) rfl (by decide +kernel) rfl rfl (Nat.le_of_ble_eq_true rfl) dX9_init_81 (fun H locs hP hD hS => ?_)
  have hP : va_P D classes [(x, .inr (9, [.ref q_1, .null, .null, .null, .null, .null, .ref q_7, .ref q_13, .ref q_18, .ref q_23, .ref q_24, .int 0, .int 0, .int 0, .int 0])), (q_1, .inr (7, [.ref q_4, .ref q_5, .int 0, .int 0, .int 0, .int 0, .int 0, .int 0, .long 0, .int 0, .int 0, .int 0])), (q_4, .inl (cy 0, 940, .inl (fun _ => 0))), (q_5, .inl (cy 2, 28, .inr (.inl g_6))), (q_7, .inr (0, [.ref q_10, .ref q_11, .ref q_12, .int 0, .int 0])), (q_10, .inl (cy 1, 40, .inl (fun _ => 0))), (q_11, .inl (cy 1, 40, .inl (fun _ => 0))), (q_12, .inl (cy 1, 40, .inl (fun _ => 0))), (q_13, .inl (cy 1, 4, .inl g_17)), (q_18, .inr (4, [.ref q_21, .ref q_22])), (q_21, .inl (cy 1, 6, .inl (fun _ => 0))), (q_22, .inl (cy 1, 6, .inl (fun _ => (-1)))), (q_23, .inl (cy 1, 8, .inl (fun _ => 0))), (q_24, .inr (6, [.ref q_27, .int 0])), (q_27, .inl (cy 0, 26, .inl (fun _ => 0)))] H := hP
  have hD : va_D A [(x, .inr (9, [.ref q_1, .null, .null, .null, .null, .null, .ref q_7, .ref q_13, .ref q_18, .ref q_23, .ref q_24, .int 0, .int 0, .int 0, .int 0])), (q_1, .inr (7, [.ref q_4, .ref q_5, .int 0, .int 0, .int 0, .int 0, .int 0, .int 0, .long 0, .int 0, .int 0, .int 0])), (q_4, .inl (cy 0, 940, .inl (fun _ => 0))), (q_5, .inl (cy 2, 28, .inr (.inl g_6))), (q_7, .inr (0, [.ref q_10, .ref q_11, .ref q_12, .int 0, .int 0])), (q_10, .inl (cy 1, 40, .inl (fun _ => 0))), (q_11, .inl (cy 1, 40, .inl (fun _ => 0))), (q_12, .inl (cy 1, 40, .inl (fun _ => 0))), (q_13, .inl (cy 1, 4, .inl g_17)), (q_18, .inr (4, [.ref q_21, .ref q_22])), (q_21, .inl (cy 1, 6, .inl (fun _ => 0))), (q_22, .inl (cy 1, 6, .inl (fun _ => (-1)))), (q_23, .inl (cy 1, 8, .inl (fun _ => 0))), (q_24, .inr (6, [.ref q_27, .int 0])), (q_27, .inl (cy 0, 26, .inl (fun _ => 0)))] := hD
  refine lv_aload_n hx hb dX9_init_84 rfl (lv_at hl 0 rfl) ?_
  refine lv_iconst (v := (-1)) hx hb dX9_init_85 (by decide) ?_
  refine va_put (D := D) (ci := 9) (v := .int (-1)) (ty := .int) (C := RX9) (T := TX9) (N := 15) hx hb hts inX9 tyX9 tyX9_ok nmX9 hown hK hP hD hS 0 rfl rfl 12 (by decide) (hts _ tw_358) (fun _ h9 => h9) rfl (by decide +kernel) rfl rfl (Nat.le_of_ble_eq_true rfl) dX9_init_86 (fun H locs hP hD hS => ?_)
  have hP : va_P D classes [(x, .inr (9, [.ref q_1, .null, .null, .null, .null, .null, .ref q_7, .ref q_13, .ref q_18, .ref q_23, .ref q_24, .int 0, .int (-1), .int 0, .int 0])), (q_1, .inr (7, [.ref q_4, .ref q_5, .int 0, .int 0, .int 0, .int 0, .int 0, .int 0, .long 0, .int 0, .int 0, .int 0])), (q_4, .inl (cy 0, 940, .inl (fun _ => 0))), (q_5, .inl (cy 2, 28, .inr (.inl g_6))), (q_7, .inr (0, [.ref q_10, .ref q_11, .ref q_12, .int 0, .int 0])), (q_10, .inl (cy 1, 40, .inl (fun _ => 0))), (q_11, .inl (cy 1, 40, .inl (fun _ => 0))), (q_12, .inl (cy 1, 40, .inl (fun _ => 0))), (q_13, .inl (cy 1, 4, .inl g_17)), (q_18, .inr (4, [.ref q_21, .ref q_22])), (q_21, .inl (cy 1, 6, .inl (fun _ => 0))), (q_22, .inl (cy 1, 6, .inl (fun _ => (-1)))), (q_23, .inl (cy 1, 8, .inl (fun _ => 0))), (q_24, .inr (6, [.ref q_27, .int 0])), (q_27, .inl (cy 0, 26, .inl (fun _ => 0)))] H := hP
  have hD : va_D A [(x, .inr (9, [.ref q_1, .null, .null, .null, .null, .null, .ref q_7, .ref q_13, .ref q_18, .ref q_23, .ref q_24, .int 0, .int (-1), .int 0, .int 0])), (q_1, .inr (7, [.ref q_4, .ref q_5, .int 0, .int 0, .int 0, .int 0, .int 0, .int 0, .long 0, .int 0, .int 0, .int 0])), (q_4, .inl (cy 0, 940, .inl (fun _ => 0))), (q_5, .inl (cy 2, 28, .inr (.inl g_6))), (q_7, .inr (0, [.ref q_10, .ref q_11, .ref q_12, .int 0, .int 0])), (q_10, .inl (cy 1, 40, .inl (fun _ => 0))), (q_11, .inl (cy 1, 40, .inl (fun _ => 0))), (q_12, .inl (cy 1, 40, .inl (fun _ => 0))), (q_13, .inl (cy 1, 4, .inl g_17)), (q_18, .inr (4, [.ref q_21, .ref q_22])), (q_21, .inl (cy 1, 6, .inl (fun _ => 0))), (q_22, .inl (cy 1, 6, .inl (fun _ => (-1)))), (q_23, .inl (cy 1, 8, .inl (fun _ => 0))), (q_24, .inr (6, [.ref q_27, .int 0])), (q_27, .inl (cy 0, 26, .inl (fun _ => 0)))] := hD
  refine lv_aload_n hx hb dX9_init_89 rfl (lv_at hl 0 rfl) ?_
  refine lv_iconst (v := (-1)) hx hb dX9_init_90 (by decide) ?_
  refine va_put (D := D) (ci := 9) (v := .int (-1)) (ty := .int) (C := RX9) (T := TX9) (N := 15) hx hb hts inX9 tyX9 tyX9_ok nmX9 hown hK hP hD hS 0 rfl rfl 13 (by decide) (hts _ tw_359) (fun _ h9 => h9) rfl (by decide +kernel) rfl rfl (Nat.le_of_ble_eq_true rfl) dX9_init_91 (fun H locs hP hD hS => ?_)
  have hP : va_P D classes [(x, .inr (9, [.ref q_1, .null, .null, .null, .null, .null, .ref q_7, .ref q_13, .ref q_18, .ref q_23, .ref q_24, .int 0, .int (-1), .int (-1), .int 0])), (q_1, .inr (7, [.ref q_4, .ref q_5, .int 0, .int 0, .int 0, .int 0, .int 0, .int 0, .long 0, .int 0, .int 0, .int 0])), (q_4, .inl (cy 0, 940, .inl (fun _ => 0))), (q_5, .inl (cy 2, 28, .inr (.inl g_6))), (q_7, .inr (0, [.ref q_10, .ref q_11, .ref q_12, .int 0, .int 0])), (q_10, .inl (cy 1, 40, .inl (fun _ => 0))), (q_11, .inl (cy 1, 40, .inl (fun _ => 0))), (q_12, .inl (cy 1, 40, .inl (fun _ => 0))), (q_13, .inl (cy 1, 4, .inl g_17)), (q_18, .inr (4, [.ref q_21, .ref q_22])), (q_21, .inl (cy 1, 6, .inl (fun _ => 0))), (q_22, .inl (cy 1, 6, .inl (fun _ => (-1)))), (q_23, .inl (cy 1, 8, .inl (fun _ => 0))), (q_24, .inr (6, [.ref q_27, .int 0])), (q_27, .inl (cy 0, 26, .inl (fun _ => 0)))] H := hP
  have hD : va_D A [(x, .inr (9, [.ref q_1, .null, .null, .null, .null, .null, .ref q_7, .ref q_13, .ref q_18, .ref q_23, .ref q_24, .int 0, .int (-1), .int (-1), .int 0])), (q_1, .inr (7, [.ref q_4, .ref q_5, .int 0, .int 0, .int 0, .int 0, .int 0, .int 0, .long 0, .int 0, .int 0, .int 0])), (q_4, .inl (cy 0, 940, .inl (fun _ => 0))), (q_5, .inl (cy 2, 28, .inr (.inl g_6))), (q_7, .inr (0, [.ref q_10, .ref q_11, .ref q_12, .int 0, .int 0])), (q_10, .inl (cy 1, 40, .inl (fun _ => 0))), (q_11, .inl (cy 1, 40, .inl (fun _ => 0))), (q_12, .inl (cy 1, 40, .inl (fun _ => 0))), (q_13, .inl (cy 1, 4, .inl g_17)), (q_18, .inr (4, [.ref q_21, .ref q_22])), (q_21, .inl (cy 1, 6, .inl (fun _ => 0))), (q_22, .inl (cy 1, 6, .inl (fun _ => (-1)))), (q_23, .inl (cy 1, 8, .inl (fun _ => 0))), (q_24, .inr (6, [.ref q_27, .int 0])), (q_27, .inl (cy 0, 26, .inl (fun _ => 0)))] := hD
  refine lv_aload_n hx hb dX9_init_94 rfl (lv_at hl 0 rfl) ?_
  refine lv_iconst (v := (-1)) hx hb dX9_init_95 (by decide) ?_
  refine va_put (D := D) (ci := 9) (v := .int (-1)) (ty := .int) (C := RX9) (T := TX9) (N := 15) hx hb hts inX9 tyX9 tyX9_ok nmX9 hown hK hP hD hS 0 rfl rfl 14 (by decide) (hts _ tw_360) (fun _ h9 => h9) rfl (by decide +kernel) rfl rfl (Nat.le_of_ble_eq_true rfl) dX9_init_96 (fun H locs hP hD hS => ?_)
  have hP : va_P D classes [(x, .inr (9, [.ref q_1, .null, .null, .null, .null, .null, .ref q_7, .ref q_13, .ref q_18, .ref q_23, .ref q_24, .int 0, .int (-1), .int (-1), .int (-1)])), (q_1, .inr (7, [.ref q_4, .ref q_5, .int 0, .int 0, .int 0, .int 0, .int 0, .int 0, .long 0, .int 0, .int 0, .int 0])), (q_4, .inl (cy 0, 940, .inl (fun _ => 0))), (q_5, .inl (cy 2, 28, .inr (.inl g_6))), (q_7, .inr (0, [.ref q_10, .ref q_11, .ref q_12, .int 0, .int 0])), (q_10, .inl (cy 1, 40, .inl (fun _ => 0))), (q_11, .inl (cy 1, 40, .inl (fun _ => 0))), (q_12, .inl (cy 1, 40, .inl (fun _ => 0))), (q_13, .inl (cy 1, 4, .inl g_17)), (q_18, .inr (4, [.ref q_21, .ref q_22])), (q_21, .inl (cy 1, 6, .inl (fun _ => 0))), (q_22, .inl (cy 1, 6, .inl (fun _ => (-1)))), (q_23, .inl (cy 1, 8, .inl (fun _ => 0))), (q_24, .inr (6, [.ref q_27, .int 0])), (q_27, .inl (cy 0, 26, .inl (fun _ => 0)))] H := hP
  have hD : va_D A [(x, .inr (9, [.ref q_1, .null, .null, .null, .null, .null, .ref q_7, .ref q_13, .ref q_18, .ref q_23, .ref q_24, .int 0, .int (-1), .int (-1), .int (-1)])), (q_1, .inr (7, [.ref q_4, .ref q_5, .int 0, .int 0, .int 0, .int 0, .int 0, .int 0, .long 0, .int 0, .int 0, .int 0])), (q_4, .inl (cy 0, 940, .inl (fun _ => 0))), (q_5, .inl (cy 2, 28, .inr (.inl g_6))), (q_7, .inr (0, [.ref q_10, .ref q_11, .ref q_12, .int 0, .int 0])), (q_10, .inl (cy 1, 40, .inl (fun _ => 0))), (q_11, .inl (cy 1, 40, .inl (fun _ => 0))), (q_12, .inl (cy 1, 40, .inl (fun _ => 0))), (q_13, .inl (cy 1, 4, .inl g_17)), (q_18, .inr (4, [.ref q_21, .ref q_22])), (q_21, .inl (cy 1, 6, .inl (fun _ => 0))), (q_22, .inl (cy 1, 6, .inl (fun _ => (-1)))), (q_23, .inl (cy 1, 8, .inl (fun _ => 0))), (q_24, .inr (6, [.ref q_27, .int 0])), (q_27, .inl (cy 0, 26, .inl (fun _ => 0)))] := hD
  refine va_new (ci := 3) (fs := [.null, .null, .null, .null, .null, .int 0, .int 0, .int 0, .int 0]) (C := RX3) (T := TX3) (N := 9) hx hb hts inX3 tyX3 tyX3_ok hown (hts _ tw_192) (hts _ tw_193) (hts _ tw_11) hK hP hD hS hA rfl (dfX3) (Nat.le_of_ble_eq_true rfl) (Nat.le_of_ble_eq_true rfl) dX9_init_99 (fun q_28 H hP hD hS => ?_)
  have hP : va_P D classes [(x, .inr (9, [.ref q_1, .null, .null, .null, .null, .null, .ref q_7, .ref q_13, .ref q_18, .ref q_23, .ref q_24, .int 0, .int (-1), .int (-1), .int (-1)])), (q_1, .inr (7, [.ref q_4, .ref q_5, .int 0, .int 0, .int 0, .int 0, .int 0, .int 0, .long 0, .int 0, .int 0, .int 0])), (q_4, .inl (cy 0, 940, .inl (fun _ => 0))), (q_5, .inl (cy 2, 28, .inr (.inl g_6))), (q_7, .inr (0, [.ref q_10, .ref q_11, .ref q_12, .int 0, .int 0])), (q_10, .inl (cy 1, 40, .inl (fun _ => 0))), (q_11, .inl (cy 1, 40, .inl (fun _ => 0))), (q_12, .inl (cy 1, 40, .inl (fun _ => 0))), (q_13, .inl (cy 1, 4, .inl g_17)), (q_18, .inr (4, [.ref q_21, .ref q_22])), (q_21, .inl (cy 1, 6, .inl (fun _ => 0))), (q_22, .inl (cy 1, 6, .inl (fun _ => (-1)))), (q_23, .inl (cy 1, 8, .inl (fun _ => 0))), (q_24, .inr (6, [.ref q_27, .int 0])), (q_27, .inl (cy 0, 26, .inl (fun _ => 0))), (q_28, .inr (3, [.null, .null, .null, .null, .null, .int 0, .int 0, .int 0, .int 0]))] H := hP
  have hD : va_D A [(x, .inr (9, [.ref q_1, .null, .null, .null, .null, .null, .ref q_7, .ref q_13, .ref q_18, .ref q_23, .ref q_24, .int 0, .int (-1), .int (-1), .int (-1)])), (q_1, .inr (7, [.ref q_4, .ref q_5, .int 0, .int 0, .int 0, .int 0, .int 0, .int 0, .long 0, .int 0, .int 0, .int 0])), (q_4, .inl (cy 0, 940, .inl (fun _ => 0))), (q_5, .inl (cy 2, 28, .inr (.inl g_6))), (q_7, .inr (0, [.ref q_10, .ref q_11, .ref q_12, .int 0, .int 0])), (q_10, .inl (cy 1, 40, .inl (fun _ => 0))), (q_11, .inl (cy 1, 40, .inl (fun _ => 0))), (q_12, .inl (cy 1, 40, .inl (fun _ => 0))), (q_13, .inl (cy 1, 4, .inl g_17)), (q_18, .inr (4, [.ref q_21, .ref q_22])), (q_21, .inl (cy 1, 6, .inl (fun _ => 0))), (q_22, .inl (cy 1, 6, .inl (fun _ => (-1)))), (q_23, .inl (cy 1, 8, .inl (fun _ => 0))), (q_24, .inr (6, [.ref q_27, .int 0])), (q_27, .inl (cy 0, 26, .inl (fun _ => 0))), (q_28, .inr (3, [.null, .null, .null, .null, .null, .int 0, .int 0, .int 0, .int 0]))] := hD
  refine W.widen (k := 15) (n := 1168) (Nat.le_of_ble_eq_true rfl) (Nat.le_of_ble_eq_true rfl) ?_
  refine lv_dup hx hb dX9_init_102 rfl ?_
  refine endv (wr := [(x, .inr (9, [.ref q_1, .null, .null, .null, .null, .null, .ref q_7, .ref q_13, .ref q_18, .ref q_23, .ref q_24, .int 0, .int (-1), .int (-1), .int (-1)])), (q_1, .inr (7, [.ref q_4, .ref q_5, .int 0, .int 0, .int 0, .int 0, .int 0, .int 0, .long 0, .int 0, .int 0, .int 0])), (q_4, .inl (cy 0, 940, .inl (fun _ => 0))), (q_5, .inl (cy 2, 28, .inr (.inl g_6))), (q_7, .inr (0, [.ref q_10, .ref q_11, .ref q_12, .int 0, .int 0])), (q_10, .inl (cy 1, 40, .inl (fun _ => 0))), (q_11, .inl (cy 1, 40, .inl (fun _ => 0))), (q_12, .inl (cy 1, 40, .inl (fun _ => 0))), (q_13, .inl (cy 1, 4, .inl g_17)), (q_18, .inr (4, [.ref q_21, .ref q_22])), (q_21, .inl (cy 1, 6, .inl (fun _ => 0))), (q_22, .inl (cy 1, 6, .inl (fun _ => (-1)))), (q_23, .inl (cy 1, 8, .inl (fun _ => 0))), (q_24, .inr (6, [.ref q_27, .int 0])), (q_27, .inl (cy 0, 26, .inl (fun _ => 0)))]) (va_runIN (As := []) (rest := [.ref q_28]) ⟨hx, hb, hml, hown, hts⟩ (c_Post_init l D cy z H.size q_28) ⟨va_cnB 0 hts (gC tw_196) rfl rfl rfl (va_Nw.of rfl (hSD.nest (args := #[]) tn_194)) (hts _ tw_11) (by decide +kernel) ⟨Nat.le_of_ble_eq_true rfl, Nat.le_of_ble_eq_true rfl⟩, rfl, hts _ tw_195⟩ (preS hP hD hK hSD hS hA [15] rfl (by decide)) rfl rfl hl.1 rfl (lv_room (Nat.le_of_ble_eq_true rfl)) dX9_init_103 ⟨Nat.le_of_ble_eq_true rfl, Nat.le_of_ble_eq_true rfl⟩) hP hD hS hA [15] [0, 1, 2, 3, 4, 5, 6, 7, 8, 9, 10, 11, 12, 13, 14] rfl rfl (by decide) (by decide) (fun u_29 H locs hw_30 hP hD hS => ?_)
  obtain ⟨q_31, q_32, q_33, q_34, q_35⟩ := u_29
  have hP : va_P D classes [(x, .inr (9, [.ref q_1, .null, .null, .null, .null, .null, .ref q_7, .ref q_13, .ref q_18, .ref q_23, .ref q_24, .int 0, .int (-1), .int (-1), .int (-1)])), (q_1, .inr (7, [.ref q_4, .ref q_5, .int 0, .int 0, .int 0, .int 0, .int 0, .int 0, .long 0, .int 0, .int 0, .int 0])), (q_4, .inl (cy 0, 940, .inl (fun _ => 0))), (q_5, .inl (cy 2, 28, .inr (.inl g_6))), (q_7, .inr (0, [.ref q_10, .ref q_11, .ref q_12, .int 0, .int 0])), (q_10, .inl (cy 1, 40, .inl (fun _ => 0))), (q_11, .inl (cy 1, 40, .inl (fun _ => 0))), (q_12, .inl (cy 1, 40, .inl (fun _ => 0))), (q_13, .inl (cy 1, 4, .inl g_17)), (q_18, .inr (4, [.ref q_21, .ref q_22])), (q_21, .inl (cy 1, 6, .inl (fun _ => 0))), (q_22, .inl (cy 1, 6, .inl (fun _ => (-1)))), (q_23, .inl (cy 1, 8, .inl (fun _ => 0))), (q_24, .inr (6, [.ref q_27, .int 0])), (q_27, .inl (cy 0, 26, .inl (fun _ => 0))), (q_28, .inr (3, [.ref q_31, .ref q_32, .ref q_33, .ref q_34, .ref q_35, .int 0, .int 5, .int 0, .int 0])), (q_31, .inl (cy 2, 32, .inr (.inl (fun _ => 0)))), (q_32, .inl (cy 1, 4, .inl (fun _ => 0))), (q_33, .inl (cy 1, 6, .inl (fun _ => 0))), (q_34, .inl (cy 1, 6, .inl (fun _ => 0))), (q_35, .inl (cy 1, 8, .inl (fun _ => 0)))] H := hP
  have hD : va_D A [(x, .inr (9, [.ref q_1, .null, .null, .null, .null, .null, .ref q_7, .ref q_13, .ref q_18, .ref q_23, .ref q_24, .int 0, .int (-1), .int (-1), .int (-1)])), (q_1, .inr (7, [.ref q_4, .ref q_5, .int 0, .int 0, .int 0, .int 0, .int 0, .int 0, .long 0, .int 0, .int 0, .int 0])), (q_4, .inl (cy 0, 940, .inl (fun _ => 0))), (q_5, .inl (cy 2, 28, .inr (.inl g_6))), (q_7, .inr (0, [.ref q_10, .ref q_11, .ref q_12, .int 0, .int 0])), (q_10, .inl (cy 1, 40, .inl (fun _ => 0))), (q_11, .inl (cy 1, 40, .inl (fun _ => 0))), (q_12, .inl (cy 1, 40, .inl (fun _ => 0))), (q_13, .inl (cy 1, 4, .inl g_17)), (q_18, .inr (4, [.ref q_21, .ref q_22])), (q_21, .inl (cy 1, 6, .inl (fun _ => 0))), (q_22, .inl (cy 1, 6, .inl (fun _ => (-1)))), (q_23, .inl (cy 1, 8, .inl (fun _ => 0))), (q_24, .inr (6, [.ref q_27, .int 0])), (q_27, .inl (cy 0, 26, .inl (fun _ => 0))), (q_28, .inr (3, [.ref q_31, .ref q_32, .ref q_33, .ref q_34, .ref q_35, .int 0, .int 5, .int 0, .int 0])), (q_31, .inl (cy 2, 32, .inr (.inl (fun _ => 0)))), (q_32, .inl (cy 1, 4, .inl (fun _ => 0))), (q_33, .inl (cy 1, 6, .inl (fun _ => 0))), (q_34, .inl (cy 1, 6, .inl (fun _ => 0))), (q_35, .inl (cy 1, 8, .inl (fun _ => 0)))] := hD
  refine W.widen (k := 20) (n := 1224) (Nat.le_of_ble_eq_true rfl) (Nat.le_of_ble_eq_true rfl) ?_
  refine lv_astore_n (lv' := [(1, .ref q_28), (0, .ref x)]) hx hb dX9_init_106 rfl hl (by decide) rfl (fun ls hl => ?_)
  refine lv_aload_n hx hb dX9_init_107 rfl (lv_at hl 1 rfl) ?_
  refine va_new (ci := 8) (fs := [.null, .int 0, .null, .null, .null, .null, .null, .null, .null, .null, .null, .null, .int 0]) (C := RX8) (T := TX8) (N := 13) hx hb hts inX8 tyX8 tyX8_ok hown (hts _ tw_240) (hts _ tw_241) (hts _ tw_12) hK hP hD hS hA rfl (dfX8) (Nat.le_of_ble_eq_true rfl) (Nat.le_of_ble_eq_true rfl) dX9_init_108 (fun q_36 H hP hD hS => ?_)
  have hP : va_P D classes [(x, .inr (9, [.ref q_1, .null, .null, .null, .null, .null, .ref q_7, .ref q_13, .ref q_18, .ref q_23, .ref q_24, .int 0, .int (-1), .int (-1), .int (-1)])), (q_1, .inr (7, [.ref q_4, .ref q_5, .int 0, .int 0, .int 0, .int 0, .int 0, .int 0, .long 0, .int 0, .int 0, .int 0])), (q_4, .inl (cy 0, 940, .inl (fun _ => 0))), (q_5, .inl (cy 2, 28, .inr (.inl g_6))), (q_7, .inr (0, [.ref q_10, .ref q_11, .ref q_12, .int 0, .int 0])), (q_10, .inl (cy 1, 40, .inl (fun _ => 0))), (q_11, .inl (cy 1, 40, .inl (fun _ => 0))), (q_12, .inl (cy 1, 40, .inl (fun _ => 0))), (q_13, .inl (cy 1, 4, .inl g_17)), (q_18, .inr (4, [.ref q_21, .ref q_22])), (q_21, .inl (cy 1, 6, .inl (fun _ => 0))), (q_22, .inl (cy 1, 6, .inl (fun _ => (-1)))), (q_23, .inl (cy 1, 8, .inl (fun _ => 0))), (q_24, .inr (6, [.ref q_27, .int 0])), (q_27, .inl (cy 0, 26, .inl (fun _ => 0))), (q_28, .inr (3, [.ref q_31, .ref q_32, .ref q_33, .ref q_34, .ref q_35, .int 0, .int 5, .int 0, .int 0])), (q_31, .inl (cy 2, 32, .inr (.inl (fun _ => 0)))), (q_32, .inl (cy 1, 4, .inl (fun _ => 0))), (q_33, .inl (cy 1, 6, .inl (fun _ => 0))), (q_34, .inl (cy 1, 6, .inl (fun _ => 0))), (q_35, .inl (cy 1, 8, .inl (fun _ => 0))), (q_36, .inr (8, [.null, .int 0, .null, .null, .null, .null, .null, .null, .null, .null, .null, .null, .int 0]))] H := hP
  have hD : va_D A [(x, .inr (9, [.ref q_1, .null, .null, .null, .null, .null, .ref q_7, .ref q_13, .ref q_18, .ref q_23, .ref q_24, .int 0, .int (-1), .int (-1), .int (-1)])), (q_1, .inr (7, [.ref q_4, .ref q_5, .int 0, .int 0, .int 0, .int 0, .int 0, .int 0, .long 0, .int 0, .int 0, .int 0])), (q_4, .inl (cy 0, 940, .inl (fun _ => 0))), (q_5, .inl (cy 2, 28, .inr (.inl g_6))), (q_7, .inr (0, [.ref q_10, .ref q_11, .ref q_12, .int 0, .int 0])), (q_10, .inl (cy 1, 40, .inl (fun _ => 0))), (q_11, .inl (cy 1, 40, .inl (fun _ => 0))), (q_12, .inl (cy 1, 40, .inl (fun _ => 0))), (q_13, .inl (cy 1, 4, .inl g_17)), (q_18, .inr (4, [.ref q_21, .ref q_22])), (q_21, .inl (cy 1, 6, .inl (fun _ => 0))), (q_22, .inl (cy 1, 6, .inl (fun _ => (-1)))), (q_23, .inl (cy 1, 8, .inl (fun _ => 0))), (q_24, .inr (6, [.ref q_27, .int 0])), (q_27, .inl (cy 0, 26, .inl (fun _ => 0))), (q_28, .inr (3, [.ref q_31, .ref q_32, .ref q_33, .ref q_34, .ref q_35, .int 0, .int 5, .int 0, .int 0])), (q_31, .inl (cy 2, 32, .inr (.inl (fun _ => 0)))), (q_32, .inl (cy 1, 4, .inl (fun _ => 0))), (q_33, .inl (cy 1, 6, .inl (fun _ => 0))), (q_34, .inl (cy 1, 6, .inl (fun _ => 0))), (q_35, .inl (cy 1, 8, .inl (fun _ => 0))), (q_36, .inr (8, [.null, .int 0, .null, .null, .null, .null, .null, .null, .null, .null, .null, .null, .int 0]))] := hD
  refine W.widen (k := 21) (n := 1237) (Nat.le_of_ble_eq_true rfl) (Nat.le_of_ble_eq_true rfl) ?_
  refine lv_dup hx hb dX9_init_111 rfl ?_
  refine lv_aload_n hx hb dX9_init_112 rfl (lv_at hl 0 rfl) ?_
  refine endv (wr := [(x, .inr (9, [.ref q_1, .null, .null, .null, .null, .null, .ref q_7, .ref q_13, .ref q_18, .ref q_23, .ref q_24, .int 0, .int (-1), .int (-1), .int (-1)])), (q_1, .inr (7, [.ref q_4, .ref q_5, .int 0, .int 0, .int 0, .int 0, .int 0, .int 0, .long 0, .int 0, .int 0, .int 0])), (q_4, .inl (cy 0, 940, .inl (fun _ => 0))), (q_5, .inl (cy 2, 28, .inr (.inl g_6))), (q_7, .inr (0, [.ref q_10, .ref q_11, .ref q_12, .int 0, .int 0])), (q_10, .inl (cy 1, 40, .inl (fun _ => 0))), (q_11, .inl (cy 1, 40, .inl (fun _ => 0))), (q_12, .inl (cy 1, 40, .inl (fun _ => 0))), (q_13, .inl (cy 1, 4, .inl g_17)), (q_18, .inr (4, [.ref q_21, .ref q_22])), (q_21, .inl (cy 1, 6, .inl (fun _ => 0))), (q_22, .inl (cy 1, 6, .inl (fun _ => (-1)))), (q_23, .inl (cy 1, 8, .inl (fun _ => 0))), (q_24, .inr (6, [.ref q_27, .int 0])), (q_27, .inl (cy 0, 26, .inl (fun _ => 0))), (q_28, .inr (3, [.ref q_31, .ref q_32, .ref q_33, .ref q_34, .ref q_35, .int 0, .int 5, .int 0, .int 0])), (q_31, .inl (cy 2, 32, .inr (.inl (fun _ => 0)))), (q_32, .inl (cy 1, 4, .inl (fun _ => 0))), (q_33, .inl (cy 1, 6, .inl (fun _ => 0))), (q_34, .inl (cy 1, 6, .inl (fun _ => 0))), (q_35, .inl (cy 1, 8, .inl (fun _ => 0)))]) (va_runI (As := [.ref q_28]) (rest := [.ref q_36, .ref x]) ⟨hx, hb, hml, hown, hts⟩ (c_World_init l D cy z H.size q_36 q_28) (cwI 1 hts (gC tw_244) rfl rfl rfl (hts _ tw_12) (hts _ tw_242) (hts _ tw_243) rfl (by decide +kernel) ⟨Nat.le_of_ble_eq_true rfl, Nat.le_of_ble_eq_true rfl⟩) (preS hP hD hK hSD hS hA [21] rfl (by decide)) rfl rfl hl.1 rfl (lv_room (Nat.le_of_ble_eq_true rfl)) dX9_init_113 ⟨Nat.le_of_ble_eq_true rfl, Nat.le_of_ble_eq_true rfl⟩) hP hD hS hA [21] [0, 1, 2, 3, 4, 5, 6, 7, 8, 9, 10, 11, 12, 13, 14, 15, 16, 17, 18, 19, 20] rfl rfl (by decide) (by decide) (fun u_37 H locs hw_38 hP hD hS => ?_)
  obtain ⟨q_39, q_40, q_41, q_42, q_43, q_44, q_45, q_46, q_47, q_48⟩ := u_37
  have hP : va_P D classes [(x, .inr (9, [.ref q_1, .null, .null, .null, .null, .null, .ref q_7, .ref q_13, .ref q_18, .ref q_23, .ref q_24, .int 0, .int (-1), .int (-1), .int (-1)])), (q_1, .inr (7, [.ref q_4, .ref q_5, .int 0, .int 0, .int 0, .int 0, .int 0, .int 0, .long 0, .int 0, .int 0, .int 0])), (q_4, .inl (cy 0, 940, .inl (fun _ => 0))), (q_5, .inl (cy 2, 28, .inr (.inl g_6))), (q_7, .inr (0, [.ref q_10, .ref q_11, .ref q_12, .int 0, .int 0])), (q_10, .inl (cy 1, 40, .inl (fun _ => 0))), (q_11, .inl (cy 1, 40, .inl (fun _ => 0))), (q_12, .inl (cy 1, 40, .inl (fun _ => 0))), (q_13, .inl (cy 1, 4, .inl g_17)), (q_18, .inr (4, [.ref q_21, .ref q_22])), (q_21, .inl (cy 1, 6, .inl (fun _ => 0))), (q_22, .inl (cy 1, 6, .inl (fun _ => (-1)))), (q_23, .inl (cy 1, 8, .inl (fun _ => 0))), (q_24, .inr (6, [.ref q_27, .int 0])), (q_27, .inl (cy 0, 26, .inl (fun _ => 0))), (q_28, .inr (3, [.ref q_31, .ref q_32, .ref q_33, .ref q_34, .ref q_35, .int 0, .int 5, .int 0, .int 0])), (q_31, .inl (cy 2, 32, .inr (.inl (fun _ => 0)))), (q_32, .inl (cy 1, 4, .inl (fun _ => 0))), (q_33, .inl (cy 1, 6, .inl (fun _ => 0))), (q_34, .inl (cy 1, 6, .inl (fun _ => 0))), (q_35, .inl (cy 1, 8, .inl (fun _ => 0))), (q_36, .inr (8, [.ref q_28, .int 0, .ref q_39, .ref q_40, .ref q_41, .ref q_42, .ref q_43, .ref q_44, .ref q_45, .ref q_46, .ref q_47, .ref q_48, .int 0])), (q_39, .inl (cy 1, 36, .inl (fun _ => 0))), (q_40, .inl (cy 1, 6, .inl (fun _ => 0))), (q_41, .inl (cy 1, 6, .inl (fun _ => 0))), (q_42, .inl (cy 1, 6, .inl (fun _ => 0))), (q_43, .inl (cy 1, 6, .inl (fun _ => 0))), (q_44, .inl (cy 1, 8, .inl (fun _ => 0))), (q_46, .inl (cy 1, 8, .inl (fun _ => 0))), (q_47, .inl (cy 1, 8, .inl (fun _ => 0))), (q_48, .inl (cy 1, 6, .inl (fun _ => 0))), (q_45, .inl (cy 1, 8, .inl (fun _ => (-1))))] H := hP
  have hD : va_D A [(x, .inr (9, [.ref q_1, .null, .null, .null, .null, .null, .ref q_7, .ref q_13, .ref q_18, .ref q_23, .ref q_24, .int 0, .int (-1), .int (-1), .int (-1)])), (q_1, .inr (7, [.ref q_4, .ref q_5, .int 0, .int 0, .int 0, .int 0, .int 0, .int 0, .long 0, .int 0, .int 0, .int 0])), (q_4, .inl (cy 0, 940, .inl (fun _ => 0))), (q_5, .inl (cy 2, 28, .inr (.inl g_6))), (q_7, .inr (0, [.ref q_10, .ref q_11, .ref q_12, .int 0, .int 0])), (q_10, .inl (cy 1, 40, .inl (fun _ => 0))), (q_11, .inl (cy 1, 40, .inl (fun _ => 0))), (q_12, .inl (cy 1, 40, .inl (fun _ => 0))), (q_13, .inl (cy 1, 4, .inl g_17)), (q_18, .inr (4, [.ref q_21, .ref q_22])), (q_21, .inl (cy 1, 6, .inl (fun _ => 0))), (q_22, .inl (cy 1, 6, .inl (fun _ => (-1)))), (q_23, .inl (cy 1, 8, .inl (fun _ => 0))), (q_24, .inr (6, [.ref q_27, .int 0])), (q_27, .inl (cy 0, 26, .inl (fun _ => 0))), (q_28, .inr (3, [.ref q_31, .ref q_32, .ref q_33, .ref q_34, .ref q_35, .int 0, .int 5, .int 0, .int 0])), (q_31, .inl (cy 2, 32, .inr (.inl (fun _ => 0)))), (q_32, .inl (cy 1, 4, .inl (fun _ => 0))), (q_33, .inl (cy 1, 6, .inl (fun _ => 0))), (q_34, .inl (cy 1, 6, .inl (fun _ => 0))), (q_35, .inl (cy 1, 8, .inl (fun _ => 0))), (q_36, .inr (8, [.ref q_28, .int 0, .ref q_39, .ref q_40, .ref q_41, .ref q_42, .ref q_43, .ref q_44, .ref q_45, .ref q_46, .ref q_47, .ref q_48, .int 0])), (q_39, .inl (cy 1, 36, .inl (fun _ => 0))), (q_40, .inl (cy 1, 6, .inl (fun _ => 0))), (q_41, .inl (cy 1, 6, .inl (fun _ => 0))), (q_42, .inl (cy 1, 6, .inl (fun _ => 0))), (q_43, .inl (cy 1, 6, .inl (fun _ => 0))), (q_44, .inl (cy 1, 8, .inl (fun _ => 0))), (q_46, .inl (cy 1, 8, .inl (fun _ => 0))), (q_47, .inl (cy 1, 8, .inl (fun _ => 0))), (q_48, .inl (cy 1, 6, .inl (fun _ => 0))), (q_45, .inl (cy 1, 8, .inl (fun _ => (-1))))] := hD
  refine W.widen (k := 31) (n := 1335) (Nat.le_of_ble_eq_true rfl) (Nat.le_of_ble_eq_true rfl) ?_
  refine va_putF (D := D) (ci := 9) (v := .ref q_36) (ty := .object "WonderParcels$World") (C := RX9) (T := TX9) (N := 15) hx hb hts inX9 tyX9 tyX9_ok nmX9 hown hK hP hD hS 0 rfl rfl 1 (by decide) (hts _ tw_347) (fun _ h9 => h9) rfl hin rfl (by decide +kernel) rfl rfl (Nat.le_of_ble_eq_true rfl) dX9_init_116 (fun H locs hP hD hS => ?_)
  have hP : va_P D classes [(x, .inr (9, [.ref q_1, .ref q_36, .null, .null, .null, .null, .ref q_7, .ref q_13, .ref q_18, .ref q_23, .ref q_24, .int 0, .int (-1), .int (-1), .int (-1)])), (q_1, .inr (7, [.ref q_4, .ref q_5, .int 0, .int 0, .int 0, .int 0, .int 0, .int 0, .long 0, .int 0, .int 0, .int 0])), (q_4, .inl (cy 0, 940, .inl (fun _ => 0))), (q_5, .inl (cy 2, 28, .inr (.inl g_6))), (q_7, .inr (0, [.ref q_10, .ref q_11, .ref q_12, .int 0, .int 0])), (q_10, .inl (cy 1, 40, .inl (fun _ => 0))), (q_11, .inl (cy 1, 40, .inl (fun _ => 0))), (q_12, .inl (cy 1, 40, .inl (fun _ => 0))), (q_13, .inl (cy 1, 4, .inl g_17)), (q_18, .inr (4, [.ref q_21, .ref q_22])), (q_21, .inl (cy 1, 6, .inl (fun _ => 0))), (q_22, .inl (cy 1, 6, .inl (fun _ => (-1)))), (q_23, .inl (cy 1, 8, .inl (fun _ => 0))), (q_24, .inr (6, [.ref q_27, .int 0])), (q_27, .inl (cy 0, 26, .inl (fun _ => 0))), (q_28, .inr (3, [.ref q_31, .ref q_32, .ref q_33, .ref q_34, .ref q_35, .int 0, .int 5, .int 0, .int 0])), (q_31, .inl (cy 2, 32, .inr (.inl (fun _ => 0)))), (q_32, .inl (cy 1, 4, .inl (fun _ => 0))), (q_33, .inl (cy 1, 6, .inl (fun _ => 0))), (q_34, .inl (cy 1, 6, .inl (fun _ => 0))), (q_35, .inl (cy 1, 8, .inl (fun _ => 0))), (q_36, .inr (8, [.ref q_28, .int 0, .ref q_39, .ref q_40, .ref q_41, .ref q_42, .ref q_43, .ref q_44, .ref q_45, .ref q_46, .ref q_47, .ref q_48, .int 0])), (q_39, .inl (cy 1, 36, .inl (fun _ => 0))), (q_40, .inl (cy 1, 6, .inl (fun _ => 0))), (q_41, .inl (cy 1, 6, .inl (fun _ => 0))), (q_42, .inl (cy 1, 6, .inl (fun _ => 0))), (q_43, .inl (cy 1, 6, .inl (fun _ => 0))), (q_44, .inl (cy 1, 8, .inl (fun _ => 0))), (q_46, .inl (cy 1, 8, .inl (fun _ => 0))), (q_47, .inl (cy 1, 8, .inl (fun _ => 0))), (q_48, .inl (cy 1, 6, .inl (fun _ => 0))), (q_45, .inl (cy 1, 8, .inl (fun _ => (-1))))] H := hP
  have hD : va_D A [(x, .inr (9, [.ref q_1, .ref q_36, .null, .null, .null, .null, .ref q_7, .ref q_13, .ref q_18, .ref q_23, .ref q_24, .int 0, .int (-1), .int (-1), .int (-1)])), (q_1, .inr (7, [.ref q_4, .ref q_5, .int 0, .int 0, .int 0, .int 0, .int 0, .int 0, .long 0, .int 0, .int 0, .int 0])), (q_4, .inl (cy 0, 940, .inl (fun _ => 0))), (q_5, .inl (cy 2, 28, .inr (.inl g_6))), (q_7, .inr (0, [.ref q_10, .ref q_11, .ref q_12, .int 0, .int 0])), (q_10, .inl (cy 1, 40, .inl (fun _ => 0))), (q_11, .inl (cy 1, 40, .inl (fun _ => 0))), (q_12, .inl (cy 1, 40, .inl (fun _ => 0))), (q_13, .inl (cy 1, 4, .inl g_17)), (q_18, .inr (4, [.ref q_21, .ref q_22])), (q_21, .inl (cy 1, 6, .inl (fun _ => 0))), (q_22, .inl (cy 1, 6, .inl (fun _ => (-1)))), (q_23, .inl (cy 1, 8, .inl (fun _ => 0))), (q_24, .inr (6, [.ref q_27, .int 0])), (q_27, .inl (cy 0, 26, .inl (fun _ => 0))), (q_28, .inr (3, [.ref q_31, .ref q_32, .ref q_33, .ref q_34, .ref q_35, .int 0, .int 5, .int 0, .int 0])), (q_31, .inl (cy 2, 32, .inr (.inl (fun _ => 0)))), (q_32, .inl (cy 1, 4, .inl (fun _ => 0))), (q_33, .inl (cy 1, 6, .inl (fun _ => 0))), (q_34, .inl (cy 1, 6, .inl (fun _ => 0))), (q_35, .inl (cy 1, 8, .inl (fun _ => 0))), (q_36, .inr (8, [.ref q_28, .int 0, .ref q_39, .ref q_40, .ref q_41, .ref q_42, .ref q_43, .ref q_44, .ref q_45, .ref q_46, .ref q_47, .ref q_48, .int 0])), (q_39, .inl (cy 1, 36, .inl (fun _ => 0))), (q_40, .inl (cy 1, 6, .inl (fun _ => 0))), (q_41, .inl (cy 1, 6, .inl (fun _ => 0))), (q_42, .inl (cy 1, 6, .inl (fun _ => 0))), (q_43, .inl (cy 1, 6, .inl (fun _ => 0))), (q_44, .inl (cy 1, 8, .inl (fun _ => 0))), (q_46, .inl (cy 1, 8, .inl (fun _ => 0))), (q_47, .inl (cy 1, 8, .inl (fun _ => 0))), (q_48, .inl (cy 1, 6, .inl (fun _ => 0))), (q_45, .inl (cy 1, 8, .inl (fun _ => (-1))))] := hD
  refine lv_aload_n hx hb dX9_init_119 rfl (lv_at hl 1 rfl) ?_
  refine va_new (ci := 8) (fs := [.null, .int 0, .null, .null, .null, .null, .null, .null, .null, .null, .null, .null, .int 0]) (C := RX8) (T := TX8) (N := 13) hx hb hts inX8 tyX8 tyX8_ok hown (hts _ tw_240) (hts _ tw_241) (hts _ tw_12) hK hP hD hS hA rfl (dfX8) (Nat.le_of_ble_eq_true rfl) (Nat.le_of_ble_eq_true rfl) dX9_init_120 (fun q_49 H hP hD hS => ?_)
  have hP : va_P D classes [(x, .inr (9, [.ref q_1, .ref q_36, .null, .null, .null, .null, .ref q_7, .ref q_13, .ref q_18, .ref q_23, .ref q_24, .int 0, .int (-1), .int (-1), .int (-1)])), (q_1, .inr (7, [.ref q_4, .ref q_5, .int 0, .int 0, .int 0, .int 0, .int 0, .int 0, .long 0, .int 0, .int 0, .int 0])), (q_4, .inl (cy 0, 940, .inl (fun _ => 0))), (q_5, .inl (cy 2, 28, .inr (.inl g_6))), (q_7, .inr (0, [.ref q_10, .ref q_11, .ref q_12, .int 0, .int 0])), (q_10, .inl (cy 1, 40, .inl (fun _ => 0))), (q_11, .inl (cy 1, 40, .inl (fun _ => 0))), (q_12, .inl (cy 1, 40, .inl (fun _ => 0))), (q_13, .inl (cy 1, 4, .inl g_17)), (q_18, .inr (4, [.ref q_21, .ref q_22])), (q_21, .inl (cy 1, 6, .inl (fun _ => 0))), (q_22, .inl (cy 1, 6, .inl (fun _ => (-1)))), (q_23, .inl (cy 1, 8, .inl (fun _ => 0))), (q_24, .inr (6, [.ref q_27, .int 0])), (q_27, .inl (cy 0, 26, .inl (fun _ => 0))), (q_28, .inr (3, [.ref q_31, .ref q_32, .ref q_33, .ref q_34, .ref q_35, .int 0, .int 5, .int 0, .int 0])), (q_31, .inl (cy 2, 32, .inr (.inl (fun _ => 0)))), (q_32, .inl (cy 1, 4, .inl (fun _ => 0))), (q_33, .inl (cy 1, 6, .inl (fun _ => 0))), (q_34, .inl (cy 1, 6, .inl (fun _ => 0))), (q_35, .inl (cy 1, 8, .inl (fun _ => 0))), (q_36, .inr (8, [.ref q_28, .int 0, .ref q_39, .ref q_40, .ref q_41, .ref q_42, .ref q_43, .ref q_44, .ref q_45, .ref q_46, .ref q_47, .ref q_48, .int 0])), (q_39, .inl (cy 1, 36, .inl (fun _ => 0))), (q_40, .inl (cy 1, 6, .inl (fun _ => 0))), (q_41, .inl (cy 1, 6, .inl (fun _ => 0))), (q_42, .inl (cy 1, 6, .inl (fun _ => 0))), (q_43, .inl (cy 1, 6, .inl (fun _ => 0))), (q_44, .inl (cy 1, 8, .inl (fun _ => 0))), (q_46, .inl (cy 1, 8, .inl (fun _ => 0))), (q_47, .inl (cy 1, 8, .inl (fun _ => 0))), (q_48, .inl (cy 1, 6, .inl (fun _ => 0))), (q_45, .inl (cy 1, 8, .inl (fun _ => (-1)))), (q_49, .inr (8, [.null, .int 0, .null, .null, .null, .null, .null, .null, .null, .null, .null, .null, .int 0]))] H := hP
  have hD : va_D A [(x, .inr (9, [.ref q_1, .ref q_36, .null, .null, .null, .null, .ref q_7, .ref q_13, .ref q_18, .ref q_23, .ref q_24, .int 0, .int (-1), .int (-1), .int (-1)])), (q_1, .inr (7, [.ref q_4, .ref q_5, .int 0, .int 0, .int 0, .int 0, .int 0, .int 0, .long 0, .int 0, .int 0, .int 0])), (q_4, .inl (cy 0, 940, .inl (fun _ => 0))), (q_5, .inl (cy 2, 28, .inr (.inl g_6))), (q_7, .inr (0, [.ref q_10, .ref q_11, .ref q_12, .int 0, .int 0])), (q_10, .inl (cy 1, 40, .inl (fun _ => 0))), (q_11, .inl (cy 1, 40, .inl (fun _ => 0))), (q_12, .inl (cy 1, 40, .inl (fun _ => 0))), (q_13, .inl (cy 1, 4, .inl g_17)), (q_18, .inr (4, [.ref q_21, .ref q_22])), (q_21, .inl (cy 1, 6, .inl (fun _ => 0))), (q_22, .inl (cy 1, 6, .inl (fun _ => (-1)))), (q_23, .inl (cy 1, 8, .inl (fun _ => 0))), (q_24, .inr (6, [.ref q_27, .int 0])), (q_27, .inl (cy 0, 26, .inl (fun _ => 0))), (q_28, .inr (3, [.ref q_31, .ref q_32, .ref q_33, .ref q_34, .ref q_35, .int 0, .int 5, .int 0, .int 0])), (q_31, .inl (cy 2, 32, .inr (.inl (fun _ => 0)))), (q_32, .inl (cy 1, 4, .inl (fun _ => 0))), (q_33, .inl (cy 1, 6, .inl (fun _ => 0))), (q_34, .inl (cy 1, 6, .inl (fun _ => 0))), (q_35, .inl (cy 1, 8, .inl (fun _ => 0))), (q_36, .inr (8, [.ref q_28, .int 0, .ref q_39, .ref q_40, .ref q_41, .ref q_42, .ref q_43, .ref q_44, .ref q_45, .ref q_46, .ref q_47, .ref q_48, .int 0])), (q_39, .inl (cy 1, 36, .inl (fun _ => 0))), (q_40, .inl (cy 1, 6, .inl (fun _ => 0))), (q_41, .inl (cy 1, 6, .inl (fun _ => 0))), (q_42, .inl (cy 1, 6, .inl (fun _ => 0))), (q_43, .inl (cy 1, 6, .inl (fun _ => 0))), (q_44, .inl (cy 1, 8, .inl (fun _ => 0))), (q_46, .inl (cy 1, 8, .inl (fun _ => 0))), (q_47, .inl (cy 1, 8, .inl (fun _ => 0))), (q_48, .inl (cy 1, 6, .inl (fun _ => 0))), (q_45, .inl (cy 1, 8, .inl (fun _ => (-1)))), (q_49, .inr (8, [.null, .int 0, .null, .null, .null, .null, .null, .null, .null, .null, .null, .null, .int 0]))] := hD
  refine W.widen (k := 32) (n := 1348) (Nat.le_of_ble_eq_true rfl) (Nat.le_of_ble_eq_true rfl) ?_
  refine lv_dup hx hb dX9_init_123 rfl ?_
  refine lv_aload_n hx hb dX9_init_124 rfl (lv_at hl 0 rfl) ?_
  refine endv (wr := [(x, .inr (9, [.ref q_1, .ref q_36, .null, .null, .null, .null, .ref q_7, .ref q_13, .ref q_18, .ref q_23, .ref q_24, .int 0, .int (-1), .int (-1), .int (-1)])), (q_1, .inr (7, [.ref q_4, .ref q_5, .int 0, .int 0, .int 0, .int 0, .int 0, .int 0, .long 0, .int 0, .int 0, .int 0])), (q_4, .inl (cy 0, 940, .inl (fun _ => 0))), (q_5, .inl (cy 2, 28, .inr (.inl g_6))), (q_7, .inr (0, [.ref q_10, .ref q_11, .ref q_12, .int 0, .int 0])), (q_10, .inl (cy 1, 40, .inl (fun _ => 0))), (q_11, .inl (cy 1, 40, .inl (fun _ => 0))), (q_12, .inl (cy 1, 40, .inl (fun _ => 0))), (q_13, .inl (cy 1, 4, .inl g_17)), (q_18, .inr (4, [.ref q_21, .ref q_22])), (q_21, .inl (cy 1, 6, .inl (fun _ => 0))), (q_22, .inl (cy 1, 6, .inl (fun _ => (-1)))), (q_23, .inl (cy 1, 8, .inl (fun _ => 0))), (q_24, .inr (6, [.ref q_27, .int 0])), (q_27, .inl (cy 0, 26, .inl (fun _ => 0))), (q_28, .inr (3, [.ref q_31, .ref q_32, .ref q_33, .ref q_34, .ref q_35, .int 0, .int 5, .int 0, .int 0])), (q_31, .inl (cy 2, 32, .inr (.inl (fun _ => 0)))), (q_32, .inl (cy 1, 4, .inl (fun _ => 0))), (q_33, .inl (cy 1, 6, .inl (fun _ => 0))), (q_34, .inl (cy 1, 6, .inl (fun _ => 0))), (q_35, .inl (cy 1, 8, .inl (fun _ => 0))), (q_36, .inr (8, [.ref q_28, .int 0, .ref q_39, .ref q_40, .ref q_41, .ref q_42, .ref q_43, .ref q_44, .ref q_45, .ref q_46, .ref q_47, .ref q_48, .int 0])), (q_39, .inl (cy 1, 36, .inl (fun _ => 0))), (q_40, .inl (cy 1, 6, .inl (fun _ => 0))), (q_41, .inl (cy 1, 6, .inl (fun _ => 0))), (q_42, .inl (cy 1, 6, .inl (fun _ => 0))), (q_43, .inl (cy 1, 6, .inl (fun _ => 0))), (q_44, .inl (cy 1, 8, .inl (fun _ => 0))), (q_46, .inl (cy 1, 8, .inl (fun _ => 0))), (q_47, .inl (cy 1, 8, .inl (fun _ => 0))), (q_48, .inl (cy 1, 6, .inl (fun _ => 0))), (q_45, .inl (cy 1, 8, .inl (fun _ => (-1))))]) (va_runI (As := [.ref q_28]) (rest := [.ref q_49, .ref x]) ⟨hx, hb, hml, hown, hts⟩ (c_World_init l D cy z H.size q_49 q_28) (cwI 1 hts (gC tw_244) rfl rfl rfl (hts _ tw_12) (hts _ tw_242) (hts _ tw_243) rfl (by decide +kernel) ⟨Nat.le_of_ble_eq_true rfl, Nat.le_of_ble_eq_true rfl⟩) (preS hP hD hK hSD hS hA [32] rfl (by decide)) rfl rfl hl.1 rfl (lv_room (Nat.le_of_ble_eq_true rfl)) dX9_init_125 ⟨Nat.le_of_ble_eq_true rfl, Nat.le_of_ble_eq_true rfl⟩) hP hD hS hA [32] [0, 1, 2, 3, 4, 5, 6, 7, 8, 9, 10, 11, 12, 13, 14, 15, 16, 17, 18, 19, 20, 21, 22, 23, 24, 25, 26, 27, 28, 29, 30, 31] rfl rfl (by decide) (by decide) (fun u_50 H locs hw_51 hP hD hS => ?_)
  obtain ⟨q_52, q_53, q_54, q_55, q_56, q_57, q_58, q_59, q_60, q_61⟩ := u_50
  have hP : va_P D classes [(x, .inr (9, [.ref q_1, .ref q_36, .null, .null, .null, .null, .ref q_7, .ref q_13, .ref q_18, .ref q_23, .ref q_24, .int 0, .int (-1), .int (-1), .int (-1)])), (q_1, .inr (7, [.ref q_4, .ref q_5, .int 0, .int 0, .int 0, .int 0, .int 0, .int 0, .long 0, .int 0, .int 0, .int 0])), (q_4, .inl (cy 0, 940, .inl (fun _ => 0))), (q_5, .inl (cy 2, 28, .inr (.inl g_6))), (q_7, .inr (0, [.ref q_10, .ref q_11, .ref q_12, .int 0, .int 0])), (q_10, .inl (cy 1, 40, .inl (fun _ => 0))), (q_11, .inl (cy 1, 40, .inl (fun _ => 0))), (q_12, .inl (cy 1, 40, .inl (fun _ => 0))), (q_13, .inl (cy 1, 4, .inl g_17)), (q_18, .inr (4, [.ref q_21, .ref q_22])), (q_21, .inl (cy 1, 6, .inl (fun _ => 0))), (q_22, .inl (cy 1, 6, .inl (fun _ => (-1)))), (q_23, .inl (cy 1, 8, .inl (fun _ => 0))), (q_24, .inr (6, [.ref q_27, .int 0])), (q_27, .inl (cy 0, 26, .inl (fun _ => 0))), (q_28, .inr (3, [.ref q_31, .ref q_32, .ref q_33, .ref q_34, .ref q_35, .int 0, .int 5, .int 0, .int 0])), (q_31, .inl (cy 2, 32, .inr (.inl (fun _ => 0)))), (q_32, .inl (cy 1, 4, .inl (fun _ => 0))), (q_33, .inl (cy 1, 6, .inl (fun _ => 0))), (q_34, .inl (cy 1, 6, .inl (fun _ => 0))), (q_35, .inl (cy 1, 8, .inl (fun _ => 0))), (q_36, .inr (8, [.ref q_28, .int 0, .ref q_39, .ref q_40, .ref q_41, .ref q_42, .ref q_43, .ref q_44, .ref q_45, .ref q_46, .ref q_47, .ref q_48, .int 0])), (q_39, .inl (cy 1, 36, .inl (fun _ => 0))), (q_40, .inl (cy 1, 6, .inl (fun _ => 0))), (q_41, .inl (cy 1, 6, .inl (fun _ => 0))), (q_42, .inl (cy 1, 6, .inl (fun _ => 0))), (q_43, .inl (cy 1, 6, .inl (fun _ => 0))), (q_44, .inl (cy 1, 8, .inl (fun _ => 0))), (q_46, .inl (cy 1, 8, .inl (fun _ => 0))), (q_47, .inl (cy 1, 8, .inl (fun _ => 0))), (q_48, .inl (cy 1, 6, .inl (fun _ => 0))), (q_45, .inl (cy 1, 8, .inl (fun _ => (-1)))), (q_49, .inr (8, [.ref q_28, .int 0, .ref q_52, .ref q_53, .ref q_54, .ref q_55, .ref q_56, .ref q_57, .ref q_58, .ref q_59, .ref q_60, .ref q_61, .int 0])), (q_52, .inl (cy 1, 36, .inl (fun _ => 0))), (q_53, .inl (cy 1, 6, .inl (fun _ => 0))), (q_54, .inl (cy 1, 6, .inl (fun _ => 0))), (q_55, .inl (cy 1, 6, .inl (fun _ => 0))), (q_56, .inl (cy 1, 6, .inl (fun _ => 0))), (q_57, .inl (cy 1, 8, .inl (fun _ => 0))), (q_59, .inl (cy 1, 8, .inl (fun _ => 0))), (q_60, .inl (cy 1, 8, .inl (fun _ => 0))), (q_61, .inl (cy 1, 6, .inl (fun _ => 0))), (q_58, .inl (cy 1, 8, .inl (fun _ => (-1))))] H := hP
  have hD : va_D A [(x, .inr (9, [.ref q_1, .ref q_36, .null, .null, .null, .null, .ref q_7, .ref q_13, .ref q_18, .ref q_23, .ref q_24, .int 0, .int (-1), .int (-1), .int (-1)])), (q_1, .inr (7, [.ref q_4, .ref q_5, .int 0, .int 0, .int 0, .int 0, .int 0, .int 0, .long 0, .int 0, .int 0, .int 0])), (q_4, .inl (cy 0, 940, .inl (fun _ => 0))), (q_5, .inl (cy 2, 28, .inr (.inl g_6))), (q_7, .inr (0, [.ref q_10, .ref q_11, .ref q_12, .int 0, .int 0])), (q_10, .inl (cy 1, 40, .inl (fun _ => 0))), (q_11, .inl (cy 1, 40, .inl (fun _ => 0))), (q_12, .inl (cy 1, 40, .inl (fun _ => 0))), (q_13, .inl (cy 1, 4, .inl g_17)), (q_18, .inr (4, [.ref q_21, .ref q_22])), (q_21, .inl (cy 1, 6, .inl (fun _ => 0))), (q_22, .inl (cy 1, 6, .inl (fun _ => (-1)))), (q_23, .inl (cy 1, 8, .inl (fun _ => 0))), (q_24, .inr (6, [.ref q_27, .int 0])), (q_27, .inl (cy 0, 26, .inl (fun _ => 0))), (q_28, .inr (3, [.ref q_31, .ref q_32, .ref q_33, .ref q_34, .ref q_35, .int 0, .int 5, .int 0, .int 0])), (q_31, .inl (cy 2, 32, .inr (.inl (fun _ => 0)))), (q_32, .inl (cy 1, 4, .inl (fun _ => 0))), (q_33, .inl (cy 1, 6, .inl (fun _ => 0))), (q_34, .inl (cy 1, 6, .inl (fun _ => 0))), (q_35, .inl (cy 1, 8, .inl (fun _ => 0))), (q_36, .inr (8, [.ref q_28, .int 0, .ref q_39, .ref q_40, .ref q_41, .ref q_42, .ref q_43, .ref q_44, .ref q_45, .ref q_46, .ref q_47, .ref q_48, .int 0])), (q_39, .inl (cy 1, 36, .inl (fun _ => 0))), (q_40, .inl (cy 1, 6, .inl (fun _ => 0))), (q_41, .inl (cy 1, 6, .inl (fun _ => 0))), (q_42, .inl (cy 1, 6, .inl (fun _ => 0))), (q_43, .inl (cy 1, 6, .inl (fun _ => 0))), (q_44, .inl (cy 1, 8, .inl (fun _ => 0))), (q_46, .inl (cy 1, 8, .inl (fun _ => 0))), (q_47, .inl (cy 1, 8, .inl (fun _ => 0))), (q_48, .inl (cy 1, 6, .inl (fun _ => 0))), (q_45, .inl (cy 1, 8, .inl (fun _ => (-1)))), (q_49, .inr (8, [.ref q_28, .int 0, .ref q_52, .ref q_53, .ref q_54, .ref q_55, .ref q_56, .ref q_57, .ref q_58, .ref q_59, .ref q_60, .ref q_61, .int 0])), (q_52, .inl (cy 1, 36, .inl (fun _ => 0))), (q_53, .inl (cy 1, 6, .inl (fun _ => 0))), (q_54, .inl (cy 1, 6, .inl (fun _ => 0))), (q_55, .inl (cy 1, 6, .inl (fun _ => 0))), (q_56, .inl (cy 1, 6, .inl (fun _ => 0))), (q_57, .inl (cy 1, 8, .inl (fun _ => 0))), (q_59, .inl (cy 1, 8, .inl (fun _ => 0))), (q_60, .inl (cy 1, 8, .inl (fun _ => 0))), (q_61, .inl (cy 1, 6, .inl (fun _ => 0))), (q_58, .inl (cy 1, 8, .inl (fun _ => (-1))))] := hD
  refine W.widen (k := 42) (n := 1446) (Nat.le_of_ble_eq_true rfl) (Nat.le_of_ble_eq_true rfl) ?_
  refine va_putF (D := D) (ci := 9) (v := .ref q_49) (ty := .object "WonderParcels$World") (C := RX9) (T := TX9) (N := 15) hx hb hts inX9 tyX9 tyX9_ok nmX9 hown hK hP hD hS 0 rfl rfl 2 (by decide) (hts _ tw_348) (fun _ h9 => h9) rfl hin rfl (by decide +kernel) rfl rfl (Nat.le_of_ble_eq_true rfl) dX9_init_128 (fun H locs hP hD hS => ?_)
  have hP : va_P D classes [(x, .inr (9, [.ref q_1, .ref q_36, .ref q_49, .null, .null, .null, .ref q_7, .ref q_13, .ref q_18, .ref q_23, .ref q_24, .int 0, .int (-1), .int (-1), .int (-1)])), (q_1, .inr (7, [.ref q_4, .ref q_5, .int 0, .int 0, .int 0, .int 0, .int 0, .int 0, .long 0, .int 0, .int 0, .int 0])), (q_4, .inl (cy 0, 940, .inl (fun _ => 0))), (q_5, .inl (cy 2, 28, .inr (.inl g_6))), (q_7, .inr (0, [.ref q_10, .ref q_11, .ref q_12, .int 0, .int 0])), (q_10, .inl (cy 1, 40, .inl (fun _ => 0))), (q_11, .inl (cy 1, 40, .inl (fun _ => 0))), (q_12, .inl (cy 1, 40, .inl (fun _ => 0))), (q_13, .inl (cy 1, 4, .inl g_17)), (q_18, .inr (4, [.ref q_21, .ref q_22])), (q_21, .inl (cy 1, 6, .inl (fun _ => 0))), (q_22, .inl (cy 1, 6, .inl (fun _ => (-1)))), (q_23, .inl (cy 1, 8, .inl (fun _ => 0))), (q_24, .inr (6, [.ref q_27, .int 0])), (q_27, .inl (cy 0, 26, .inl (fun _ => 0))), (q_28, .inr (3, [.ref q_31, .ref q_32, .ref q_33, .ref q_34, .ref q_35, .int 0, .int 5, .int 0, .int 0])), (q_31, .inl (cy 2, 32, .inr (.inl (fun _ => 0)))), (q_32, .inl (cy 1, 4, .inl (fun _ => 0))), (q_33, .inl (cy 1, 6, .inl (fun _ => 0))), (q_34, .inl (cy 1, 6, .inl (fun _ => 0))), (q_35, .inl (cy 1, 8, .inl (fun _ => 0))), (q_36, .inr (8, [.ref q_28, .int 0, .ref q_39, .ref q_40, .ref q_41, .ref q_42, .ref q_43, .ref q_44, .ref q_45, .ref q_46, .ref q_47, .ref q_48, .int 0])), (q_39, .inl (cy 1, 36, .inl (fun _ => 0))), (q_40, .inl (cy 1, 6, .inl (fun _ => 0))), (q_41, .inl (cy 1, 6, .inl (fun _ => 0))), (q_42, .inl (cy 1, 6, .inl (fun _ => 0))), (q_43, .inl (cy 1, 6, .inl (fun _ => 0))), (q_44, .inl (cy 1, 8, .inl (fun _ => 0))), (q_46, .inl (cy 1, 8, .inl (fun _ => 0))), (q_47, .inl (cy 1, 8, .inl (fun _ => 0))), (q_48, .inl (cy 1, 6, .inl (fun _ => 0))), (q_45, .inl (cy 1, 8, .inl (fun _ => (-1)))), (q_49, .inr (8, [.ref q_28, .int 0, .ref q_52, .ref q_53, .ref q_54, .ref q_55, .ref q_56, .ref q_57, .ref q_58, .ref q_59, .ref q_60, .ref q_61, .int 0])), (q_52, .inl (cy 1, 36, .inl (fun _ => 0))), (q_53, .inl (cy 1, 6, .inl (fun _ => 0))), (q_54, .inl (cy 1, 6, .inl (fun _ => 0))), (q_55, .inl (cy 1, 6, .inl (fun _ => 0))), (q_56, .inl (cy 1, 6, .inl (fun _ => 0))), (q_57, .inl (cy 1, 8, .inl (fun _ => 0))), (q_59, .inl (cy 1, 8, .inl (fun _ => 0))), (q_60, .inl (cy 1, 8, .inl (fun _ => 0))), (q_61, .inl (cy 1, 6, .inl (fun _ => 0))), (q_58, .inl (cy 1, 8, .inl (fun _ => (-1))))] H := hP
  have hD : va_D A [(x, .inr (9, [.ref q_1, .ref q_36, .ref q_49, .null, .null, .null, .ref q_7, .ref q_13, .ref q_18, .ref q_23, .ref q_24, .int 0, .int (-1), .int (-1), .int (-1)])), (q_1, .inr (7, [.ref q_4, .ref q_5, .int 0, .int 0, .int 0, .int 0, .int 0, .int 0, .long 0, .int 0, .int 0, .int 0])), (q_4, .inl (cy 0, 940, .inl (fun _ => 0))), (q_5, .inl (cy 2, 28, .inr (.inl g_6))), (q_7, .inr (0, [.ref q_10, .ref q_11, .ref q_12, .int 0, .int 0])), (q_10, .inl (cy 1, 40, .inl (fun _ => 0))), (q_11, .inl (cy 1, 40, .inl (fun _ => 0))), (q_12, .inl (cy 1, 40, .inl (fun _ => 0))), (q_13, .inl (cy 1, 4, .inl g_17)), (q_18, .inr (4, [.ref q_21, .ref q_22])), (q_21, .inl (cy 1, 6, .inl (fun _ => 0))), (q_22, .inl (cy 1, 6, .inl (fun _ => (-1)))), (q_23, .inl (cy 1, 8, .inl (fun _ => 0))), (q_24, .inr (6, [.ref q_27, .int 0])), (q_27, .inl (cy 0, 26, .inl (fun _ => 0))), (q_28, .inr (3, [.ref q_31, .ref q_32, .ref q_33, .ref q_34, .ref q_35, .int 0, .int 5, .int 0, .int 0])), (q_31, .inl (cy 2, 32, .inr (.inl (fun _ => 0)))), (q_32, .inl (cy 1, 4, .inl (fun _ => 0))), (q_33, .inl (cy 1, 6, .inl (fun _ => 0))), (q_34, .inl (cy 1, 6, .inl (fun _ => 0))), (q_35, .inl (cy 1, 8, .inl (fun _ => 0))), (q_36, .inr (8, [.ref q_28, .int 0, .ref q_39, .ref q_40, .ref q_41, .ref q_42, .ref q_43, .ref q_44, .ref q_45, .ref q_46, .ref q_47, .ref q_48, .int 0])), (q_39, .inl (cy 1, 36, .inl (fun _ => 0))), (q_40, .inl (cy 1, 6, .inl (fun _ => 0))), (q_41, .inl (cy 1, 6, .inl (fun _ => 0))), (q_42, .inl (cy 1, 6, .inl (fun _ => 0))), (q_43, .inl (cy 1, 6, .inl (fun _ => 0))), (q_44, .inl (cy 1, 8, .inl (fun _ => 0))), (q_46, .inl (cy 1, 8, .inl (fun _ => 0))), (q_47, .inl (cy 1, 8, .inl (fun _ => 0))), (q_48, .inl (cy 1, 6, .inl (fun _ => 0))), (q_45, .inl (cy 1, 8, .inl (fun _ => (-1)))), (q_49, .inr (8, [.ref q_28, .int 0, .ref q_52, .ref q_53, .ref q_54, .ref q_55, .ref q_56, .ref q_57, .ref q_58, .ref q_59, .ref q_60, .ref q_61, .int 0])), (q_52, .inl (cy 1, 36, .inl (fun _ => 0))), (q_53, .inl (cy 1, 6, .inl (fun _ => 0))), (q_54, .inl (cy 1, 6, .inl (fun _ => 0))), (q_55, .inl (cy 1, 6, .inl (fun _ => 0))), (q_56, .inl (cy 1, 6, .inl (fun _ => 0))), (q_57, .inl (cy 1, 8, .inl (fun _ => 0))), (q_59, .inl (cy 1, 8, .inl (fun _ => 0))), (q_60, .inl (cy 1, 8, .inl (fun _ => 0))), (q_61, .inl (cy 1, 6, .inl (fun _ => 0))), (q_58, .inl (cy 1, 8, .inl (fun _ => (-1))))] := hD
  refine lv_aload_n hx hb dX9_init_131 rfl (lv_at hl 1 rfl) ?_
  refine va_new (ci := 1) (fs := [.null, .int 0, .int 0]) (C := RX1) (T := TX1) (N := 3) hx hb hts inX1 tyX1 tyX1_ok hown (hts _ tw_304) (hts _ tw_305) (hts _ tw_13) hK hP hD hS hA rfl (dfX1) (Nat.le_of_ble_eq_true rfl) (Nat.le_of_ble_eq_true rfl) dX9_init_132 (fun q_62 H hP hD hS => ?_)
  have hP : va_P D classes [(x, .inr (9, [.ref q_1, .ref q_36, .ref q_49, .null, .null, .null, .ref q_7, .ref q_13, .ref q_18, .ref q_23, .ref q_24, .int 0, .int (-1), .int (-1), .int (-1)])), (q_1, .inr (7, [.ref q_4, .ref q_5, .int 0, .int 0, .int 0, .int 0, .int 0, .int 0, .long 0, .int 0, .int 0, .int 0])), (q_4, .inl (cy 0, 940, .inl (fun _ => 0))), (q_5, .inl (cy 2, 28, .inr (.inl g_6))), (q_7, .inr (0, [.ref q_10, .ref q_11, .ref q_12, .int 0, .int 0])), (q_10, .inl (cy 1, 40, .inl (fun _ => 0))), (q_11, .inl (cy 1, 40, .inl (fun _ => 0))), (q_12, .inl (cy 1, 40, .inl (fun _ => 0))), (q_13, .inl (cy 1, 4, .inl g_17)), (q_18, .inr (4, [.ref q_21, .ref q_22])), (q_21, .inl (cy 1, 6, .inl (fun _ => 0))), (q_22, .inl (cy 1, 6, .inl (fun _ => (-1)))), (q_23, .inl (cy 1, 8, .inl (fun _ => 0))), (q_24, .inr (6, [.ref q_27, .int 0])), (q_27, .inl (cy 0, 26, .inl (fun _ => 0))), (q_28, .inr (3, [.ref q_31, .ref q_32, .ref q_33, .ref q_34, .ref q_35, .int 0, .int 5, .int 0, .int 0])), (q_31, .inl (cy 2, 32, .inr (.inl (fun _ => 0)))), (q_32, .inl (cy 1, 4, .inl (fun _ => 0))), (q_33, .inl (cy 1, 6, .inl (fun _ => 0))), (q_34, .inl (cy 1, 6, .inl (fun _ => 0))), (q_35, .inl (cy 1, 8, .inl (fun _ => 0))), (q_36, .inr (8, [.ref q_28, .int 0, .ref q_39, .ref q_40, .ref q_41, .ref q_42, .ref q_43, .ref q_44, .ref q_45, .ref q_46, .ref q_47, .ref q_48, .int 0])), (q_39, .inl (cy 1, 36, .inl (fun _ => 0))), (q_40, .inl (cy 1, 6, .inl (fun _ => 0))), (q_41, .inl (cy 1, 6, .inl (fun _ => 0))), (q_42, .inl (cy 1, 6, .inl (fun _ => 0))), (q_43, .inl (cy 1, 6, .inl (fun _ => 0))), (q_44, .inl (cy 1, 8, .inl (fun _ => 0))), (q_46, .inl (cy 1, 8, .inl (fun _ => 0))), (q_47, .inl (cy 1, 8, .inl (fun _ => 0))), (q_48, .inl (cy 1, 6, .inl (fun _ => 0))), (q_45, .inl (cy 1, 8, .inl (fun _ => (-1)))), (q_49, .inr (8, [.ref q_28, .int 0, .ref q_52, .ref q_53, .ref q_54, .ref q_55, .ref q_56, .ref q_57, .ref q_58, .ref q_59, .ref q_60, .ref q_61, .int 0])), (q_52, .inl (cy 1, 36, .inl (fun _ => 0))), (q_53, .inl (cy 1, 6, .inl (fun _ => 0))), (q_54, .inl (cy 1, 6, .inl (fun _ => 0))), (q_55, .inl (cy 1, 6, .inl (fun _ => 0))), (q_56, .inl (cy 1, 6, .inl (fun _ => 0))), (q_57, .inl (cy 1, 8, .inl (fun _ => 0))), (q_59, .inl (cy 1, 8, .inl (fun _ => 0))), (q_60, .inl (cy 1, 8, .inl (fun _ => 0))), (q_61, .inl (cy 1, 6, .inl (fun _ => 0))), (q_58, .inl (cy 1, 8, .inl (fun _ => (-1)))), (q_62, .inr (1, [.null, .int 0, .int 0]))] H := hP
  have hD : va_D A [(x, .inr (9, [.ref q_1, .ref q_36, .ref q_49, .null, .null, .null, .ref q_7, .ref q_13, .ref q_18, .ref q_23, .ref q_24, .int 0, .int (-1), .int (-1), .int (-1)])), (q_1, .inr (7, [.ref q_4, .ref q_5, .int 0, .int 0, .int 0, .int 0, .int 0, .int 0, .long 0, .int 0, .int 0, .int 0])), (q_4, .inl (cy 0, 940, .inl (fun _ => 0))), (q_5, .inl (cy 2, 28, .inr (.inl g_6))), (q_7, .inr (0, [.ref q_10, .ref q_11, .ref q_12, .int 0, .int 0])), (q_10, .inl (cy 1, 40, .inl (fun _ => 0))), (q_11, .inl (cy 1, 40, .inl (fun _ => 0))), (q_12, .inl (cy 1, 40, .inl (fun _ => 0))), (q_13, .inl (cy 1, 4, .inl g_17)), (q_18, .inr (4, [.ref q_21, .ref q_22])), (q_21, .inl (cy 1, 6, .inl (fun _ => 0))), (q_22, .inl (cy 1, 6, .inl (fun _ => (-1)))), (q_23, .inl (cy 1, 8, .inl (fun _ => 0))), (q_24, .inr (6, [.ref q_27, .int 0])), (q_27, .inl (cy 0, 26, .inl (fun _ => 0))), (q_28, .inr (3, [.ref q_31, .ref q_32, .ref q_33, .ref q_34, .ref q_35, .int 0, .int 5, .int 0, .int 0])), (q_31, .inl (cy 2, 32, .inr (.inl (fun _ => 0)))), (q_32, .inl (cy 1, 4, .inl (fun _ => 0))), (q_33, .inl (cy 1, 6, .inl (fun _ => 0))), (q_34, .inl (cy 1, 6, .inl (fun _ => 0))), (q_35, .inl (cy 1, 8, .inl (fun _ => 0))), (q_36, .inr (8, [.ref q_28, .int 0, .ref q_39, .ref q_40, .ref q_41, .ref q_42, .ref q_43, .ref q_44, .ref q_45, .ref q_46, .ref q_47, .ref q_48, .int 0])), (q_39, .inl (cy 1, 36, .inl (fun _ => 0))), (q_40, .inl (cy 1, 6, .inl (fun _ => 0))), (q_41, .inl (cy 1, 6, .inl (fun _ => 0))), (q_42, .inl (cy 1, 6, .inl (fun _ => 0))), (q_43, .inl (cy 1, 6, .inl (fun _ => 0))), (q_44, .inl (cy 1, 8, .inl (fun _ => 0))), (q_46, .inl (cy 1, 8, .inl (fun _ => 0))), (q_47, .inl (cy 1, 8, .inl (fun _ => 0))), (q_48, .inl (cy 1, 6, .inl (fun _ => 0))), (q_45, .inl (cy 1, 8, .inl (fun _ => (-1)))), (q_49, .inr (8, [.ref q_28, .int 0, .ref q_52, .ref q_53, .ref q_54, .ref q_55, .ref q_56, .ref q_57, .ref q_58, .ref q_59, .ref q_60, .ref q_61, .int 0])), (q_52, .inl (cy 1, 36, .inl (fun _ => 0))), (q_53, .inl (cy 1, 6, .inl (fun _ => 0))), (q_54, .inl (cy 1, 6, .inl (fun _ => 0))), (q_55, .inl (cy 1, 6, .inl (fun _ => 0))), (q_56, .inl (cy 1, 6, .inl (fun _ => 0))), (q_57, .inl (cy 1, 8, .inl (fun _ => 0))), (q_59, .inl (cy 1, 8, .inl (fun _ => 0))), (q_60, .inl (cy 1, 8, .inl (fun _ => 0))), (q_61, .inl (cy 1, 6, .inl (fun _ => 0))), (q_58, .inl (cy 1, 8, .inl (fun _ => (-1)))), (q_62, .inr (1, [.null, .int 0, .int 0]))] := hD
  refine W.widen (k := 43) (n := 1449) (Nat.le_of_ble_eq_true rfl) (Nat.le_of_ble_eq_true rfl) ?_
  refine lv_dup hx hb dX9_init_135 rfl ?_
  refine lv_aload_n hx hb dX9_init_136 rfl (lv_at hl 0 rfl) ?_
  refine endv (wr := [(x, .inr (9, [.ref q_1, .ref q_36, .ref q_49, .null, .null, .null, .ref q_7, .ref q_13, .ref q_18, .ref q_23, .ref q_24, .int 0, .int (-1), .int (-1), .int (-1)])), (q_1, .inr (7, [.ref q_4, .ref q_5, .int 0, .int 0, .int 0, .int 0, .int 0, .int 0, .long 0, .int 0, .int 0, .int 0])), (q_4, .inl (cy 0, 940, .inl (fun _ => 0))), (q_5, .inl (cy 2, 28, .inr (.inl g_6))), (q_7, .inr (0, [.ref q_10, .ref q_11, .ref q_12, .int 0, .int 0])), (q_10, .inl (cy 1, 40, .inl (fun _ => 0))), (q_11, .inl (cy 1, 40, .inl (fun _ => 0))), (q_12, .inl (cy 1, 40, .inl (fun _ => 0))), (q_13, .inl (cy 1, 4, .inl g_17)), (q_18, .inr (4, [.ref q_21, .ref q_22])), (q_21, .inl (cy 1, 6, .inl (fun _ => 0))), (q_22, .inl (cy 1, 6, .inl (fun _ => (-1)))), (q_23, .inl (cy 1, 8, .inl (fun _ => 0))), (q_24, .inr (6, [.ref q_27, .int 0])), (q_27, .inl (cy 0, 26, .inl (fun _ => 0))), (q_28, .inr (3, [.ref q_31, .ref q_32, .ref q_33, .ref q_34, .ref q_35, .int 0, .int 5, .int 0, .int 0])), (q_31, .inl (cy 2, 32, .inr (.inl (fun _ => 0)))), (q_32, .inl (cy 1, 4, .inl (fun _ => 0))), (q_33, .inl (cy 1, 6, .inl (fun _ => 0))), (q_34, .inl (cy 1, 6, .inl (fun _ => 0))), (q_35, .inl (cy 1, 8, .inl (fun _ => 0))), (q_36, .inr (8, [.ref q_28, .int 0, .ref q_39, .ref q_40, .ref q_41, .ref q_42, .ref q_43, .ref q_44, .ref q_45, .ref q_46, .ref q_47, .ref q_48, .int 0])), (q_39, .inl (cy 1, 36, .inl (fun _ => 0))), (q_40, .inl (cy 1, 6, .inl (fun _ => 0))), (q_41, .inl (cy 1, 6, .inl (fun _ => 0))), (q_42, .inl (cy 1, 6, .inl (fun _ => 0))), (q_43, .inl (cy 1, 6, .inl (fun _ => 0))), (q_44, .inl (cy 1, 8, .inl (fun _ => 0))), (q_46, .inl (cy 1, 8, .inl (fun _ => 0))), (q_47, .inl (cy 1, 8, .inl (fun _ => 0))), (q_48, .inl (cy 1, 6, .inl (fun _ => 0))), (q_45, .inl (cy 1, 8, .inl (fun _ => (-1)))), (q_49, .inr (8, [.ref q_28, .int 0, .ref q_52, .ref q_53, .ref q_54, .ref q_55, .ref q_56, .ref q_57, .ref q_58, .ref q_59, .ref q_60, .ref q_61, .int 0])), (q_52, .inl (cy 1, 36, .inl (fun _ => 0))), (q_53, .inl (cy 1, 6, .inl (fun _ => 0))), (q_54, .inl (cy 1, 6, .inl (fun _ => 0))), (q_55, .inl (cy 1, 6, .inl (fun _ => 0))), (q_56, .inl (cy 1, 6, .inl (fun _ => 0))), (q_57, .inl (cy 1, 8, .inl (fun _ => 0))), (q_59, .inl (cy 1, 8, .inl (fun _ => 0))), (q_60, .inl (cy 1, 8, .inl (fun _ => 0))), (q_61, .inl (cy 1, 6, .inl (fun _ => 0))), (q_58, .inl (cy 1, 8, .inl (fun _ => (-1))))]) (va_runI (As := [.ref q_28]) (rest := [.ref q_62, .ref x]) ⟨hx, hb, hml, hown, hts⟩ (c_History_init l D cy z H.size q_62 q_28) (cwI 1 hts (gC tw_308) rfl rfl rfl (hts _ tw_13) (hts _ tw_306) (hts _ tw_307) rfl (by decide +kernel) ⟨Nat.le_of_ble_eq_true rfl, Nat.le_of_ble_eq_true rfl⟩) (preS hP hD hK hSD hS hA [43] rfl (by decide)) rfl rfl hl.1 rfl (lv_room (Nat.le_of_ble_eq_true rfl)) dX9_init_137 ⟨Nat.le_of_ble_eq_true rfl, Nat.le_of_ble_eq_true rfl⟩) hP hD hS hA [43] [0, 1, 2, 3, 4, 5, 6, 7, 8, 9, 10, 11, 12, 13, 14, 15, 16, 17, 18, 19, 20, 21, 22, 23, 24, 25, 26, 27, 28, 29, 30, 31, 32, 33, 34, 35, 36, 37, 38, 39, 40, 41, 42] rfl rfl (by decide) (by decide) (fun u_63 H locs hw_64 hP hD hS => ?_)
  obtain ⟨q_65, q_66, q_67, q_68, q_69, q_70, q_71, q_72, q_73, q_74, q_75, q_76, g_77⟩ := u_63
  have hP : va_P D classes [(x, .inr (9, [.ref q_1, .ref q_36, .ref q_49, .null, .null, .null, .ref q_7, .ref q_13, .ref q_18, .ref q_23, .ref q_24, .int 0, .int (-1), .int (-1), .int (-1)])), (q_1, .inr (7, [.ref q_4, .ref q_5, .int 0, .int 0, .int 0, .int 0, .int 0, .int 0, .long 0, .int 0, .int 0, .int 0])), (q_4, .inl (cy 0, 940, .inl (fun _ => 0))), (q_5, .inl (cy 2, 28, .inr (.inl g_6))), (q_7, .inr (0, [.ref q_10, .ref q_11, .ref q_12, .int 0, .int 0])), (q_10, .inl (cy 1, 40, .inl (fun _ => 0))), (q_11, .inl (cy 1, 40, .inl (fun _ => 0))), (q_12, .inl (cy 1, 40, .inl (fun _ => 0))), (q_13, .inl (cy 1, 4, .inl g_17)), (q_18, .inr (4, [.ref q_21, .ref q_22])), (q_21, .inl (cy 1, 6, .inl (fun _ => 0))), (q_22, .inl (cy 1, 6, .inl (fun _ => (-1)))), (q_23, .inl (cy 1, 8, .inl (fun _ => 0))), (q_24, .inr (6, [.ref q_27, .int 0])), (q_27, .inl (cy 0, 26, .inl (fun _ => 0))), (q_28, .inr (3, [.ref q_31, .ref q_32, .ref q_33, .ref q_34, .ref q_35, .int 0, .int 5, .int 0, .int 0])), (q_31, .inl (cy 2, 32, .inr (.inl (fun _ => 0)))), (q_32, .inl (cy 1, 4, .inl (fun _ => 0))), (q_33, .inl (cy 1, 6, .inl (fun _ => 0))), (q_34, .inl (cy 1, 6, .inl (fun _ => 0))), (q_35, .inl (cy 1, 8, .inl (fun _ => 0))), (q_36, .inr (8, [.ref q_28, .int 0, .ref q_39, .ref q_40, .ref q_41, .ref q_42, .ref q_43, .ref q_44, .ref q_45, .ref q_46, .ref q_47, .ref q_48, .int 0])), (q_39, .inl (cy 1, 36, .inl (fun _ => 0))), (q_40, .inl (cy 1, 6, .inl (fun _ => 0))), (q_41, .inl (cy 1, 6, .inl (fun _ => 0))), (q_42, .inl (cy 1, 6, .inl (fun _ => 0))), (q_43, .inl (cy 1, 6, .inl (fun _ => 0))), (q_44, .inl (cy 1, 8, .inl (fun _ => 0))), (q_46, .inl (cy 1, 8, .inl (fun _ => 0))), (q_47, .inl (cy 1, 8, .inl (fun _ => 0))), (q_48, .inl (cy 1, 6, .inl (fun _ => 0))), (q_45, .inl (cy 1, 8, .inl (fun _ => (-1)))), (q_49, .inr (8, [.ref q_28, .int 0, .ref q_52, .ref q_53, .ref q_54, .ref q_55, .ref q_56, .ref q_57, .ref q_58, .ref q_59, .ref q_60, .ref q_61, .int 0])), (q_52, .inl (cy 1, 36, .inl (fun _ => 0))), (q_53, .inl (cy 1, 6, .inl (fun _ => 0))), (q_54, .inl (cy 1, 6, .inl (fun _ => 0))), (q_55, .inl (cy 1, 6, .inl (fun _ => 0))), (q_56, .inl (cy 1, 6, .inl (fun _ => 0))), (q_57, .inl (cy 1, 8, .inl (fun _ => 0))), (q_59, .inl (cy 1, 8, .inl (fun _ => 0))), (q_60, .inl (cy 1, 8, .inl (fun _ => 0))), (q_61, .inl (cy 1, 6, .inl (fun _ => 0))), (q_58, .inl (cy 1, 8, .inl (fun _ => (-1)))), (q_62, .inr (1, [.ref q_65, .int 0, .int 0])), (q_65, .inl (cy 4, 9, .inr (.inr (.inr (.inr g_77))))), (q_66, .inr (8, [.ref q_28, .int 0, .ref q_67, .ref q_68, .ref q_69, .ref q_70, .ref q_71, .ref q_72, .ref q_73, .ref q_74, .ref q_75, .ref q_76, .int 0])), (q_67, .inl (cy 1, 36, .inl (fun _ => 0))), (q_68, .inl (cy 1, 6, .inl (fun _ => 0))), (q_69, .inl (cy 1, 6, .inl (fun _ => 0))), (q_70, .inl (cy 1, 6, .inl (fun _ => 0))), (q_71, .inl (cy 1, 6, .inl (fun _ => 0))), (q_72, .inl (cy 1, 8, .inl (fun _ => 0))), (q_74, .inl (cy 1, 8, .inl (fun _ => 0))), (q_75, .inl (cy 1, 8, .inl (fun _ => 0))), (q_76, .inl (cy 1, 6, .inl (fun _ => 0))), (q_73, .inl (cy 1, 8, .inl (fun _ => (-1))))] H := hP
  have hD : va_D A [(x, .inr (9, [.ref q_1, .ref q_36, .ref q_49, .null, .null, .null, .ref q_7, .ref q_13, .ref q_18, .ref q_23, .ref q_24, .int 0, .int (-1), .int (-1), .int (-1)])), (q_1, .inr (7, [.ref q_4, .ref q_5, .int 0, .int 0, .int 0, .int 0, .int 0, .int 0, .long 0, .int 0, .int 0, .int 0])), (q_4, .inl (cy 0, 940, .inl (fun _ => 0))), (q_5, .inl (cy 2, 28, .inr (.inl g_6))), (q_7, .inr (0, [.ref q_10, .ref q_11, .ref q_12, .int 0, .int 0])), (q_10, .inl (cy 1, 40, .inl (fun _ => 0))), (q_11, .inl (cy 1, 40, .inl (fun _ => 0))), (q_12, .inl (cy 1, 40, .inl (fun _ => 0))), (q_13, .inl (cy 1, 4, .inl g_17)), (q_18, .inr (4, [.ref q_21, .ref q_22])), (q_21, .inl (cy 1, 6, .inl (fun _ => 0))), (q_22, .inl (cy 1, 6, .inl (fun _ => (-1)))), (q_23, .inl (cy 1, 8, .inl (fun _ => 0))), (q_24, .inr (6, [.ref q_27, .int 0])), (q_27, .inl (cy 0, 26, .inl (fun _ => 0))), (q_28, .inr (3, [.ref q_31, .ref q_32, .ref q_33, .ref q_34, .ref q_35, .int 0, .int 5, .int 0, .int 0])), (q_31, .inl (cy 2, 32, .inr (.inl (fun _ => 0)))), (q_32, .inl (cy 1, 4, .inl (fun _ => 0))), (q_33, .inl (cy 1, 6, .inl (fun _ => 0))), (q_34, .inl (cy 1, 6, .inl (fun _ => 0))), (q_35, .inl (cy 1, 8, .inl (fun _ => 0))), (q_36, .inr (8, [.ref q_28, .int 0, .ref q_39, .ref q_40, .ref q_41, .ref q_42, .ref q_43, .ref q_44, .ref q_45, .ref q_46, .ref q_47, .ref q_48, .int 0])), (q_39, .inl (cy 1, 36, .inl (fun _ => 0))), (q_40, .inl (cy 1, 6, .inl (fun _ => 0))), (q_41, .inl (cy 1, 6, .inl (fun _ => 0))), (q_42, .inl (cy 1, 6, .inl (fun _ => 0))), (q_43, .inl (cy 1, 6, .inl (fun _ => 0))), (q_44, .inl (cy 1, 8, .inl (fun _ => 0))), (q_46, .inl (cy 1, 8, .inl (fun _ => 0))), (q_47, .inl (cy 1, 8, .inl (fun _ => 0))), (q_48, .inl (cy 1, 6, .inl (fun _ => 0))), (q_45, .inl (cy 1, 8, .inl (fun _ => (-1)))), (q_49, .inr (8, [.ref q_28, .int 0, .ref q_52, .ref q_53, .ref q_54, .ref q_55, .ref q_56, .ref q_57, .ref q_58, .ref q_59, .ref q_60, .ref q_61, .int 0])), (q_52, .inl (cy 1, 36, .inl (fun _ => 0))), (q_53, .inl (cy 1, 6, .inl (fun _ => 0))), (q_54, .inl (cy 1, 6, .inl (fun _ => 0))), (q_55, .inl (cy 1, 6, .inl (fun _ => 0))), (q_56, .inl (cy 1, 6, .inl (fun _ => 0))), (q_57, .inl (cy 1, 8, .inl (fun _ => 0))), (q_59, .inl (cy 1, 8, .inl (fun _ => 0))), (q_60, .inl (cy 1, 8, .inl (fun _ => 0))), (q_61, .inl (cy 1, 6, .inl (fun _ => 0))), (q_58, .inl (cy 1, 8, .inl (fun _ => (-1)))), (q_62, .inr (1, [.ref q_65, .int 0, .int 0])), (q_65, .inl (cy 4, 9, .inr (.inr (.inr (.inr g_77))))), (q_66, .inr (8, [.ref q_28, .int 0, .ref q_67, .ref q_68, .ref q_69, .ref q_70, .ref q_71, .ref q_72, .ref q_73, .ref q_74, .ref q_75, .ref q_76, .int 0])), (q_67, .inl (cy 1, 36, .inl (fun _ => 0))), (q_68, .inl (cy 1, 6, .inl (fun _ => 0))), (q_69, .inl (cy 1, 6, .inl (fun _ => 0))), (q_70, .inl (cy 1, 6, .inl (fun _ => 0))), (q_71, .inl (cy 1, 6, .inl (fun _ => 0))), (q_72, .inl (cy 1, 8, .inl (fun _ => 0))), (q_74, .inl (cy 1, 8, .inl (fun _ => 0))), (q_75, .inl (cy 1, 8, .inl (fun _ => 0))), (q_76, .inl (cy 1, 6, .inl (fun _ => 0))), (q_73, .inl (cy 1, 8, .inl (fun _ => (-1))))] := hD
  refine W.widen (k := 143) (n := 2457) (Nat.le_of_ble_eq_true rfl) (Nat.le_of_ble_eq_true rfl) ?_
  have hw_64 : g_77 0 = some q_66 := hw_64
  refine va_putF (D := D) (ci := 9) (v := .ref q_62) (ty := .object "WonderParcels$History") (C := RX9) (T := TX9) (N := 15) hx hb hts inX9 tyX9 tyX9_ok nmX9 hown hK hP hD hS 0 rfl rfl 3 (by decide) (hts _ tw_349) (fun _ h9 => h9) rfl hin rfl (by decide +kernel) rfl rfl (Nat.le_of_ble_eq_true rfl) dX9_init_140 (fun H locs hP hD hS => ?_)
  have hP : va_P D classes [(x, .inr (9, [.ref q_1, .ref q_36, .ref q_49, .ref q_62, .null, .null, .ref q_7, .ref q_13, .ref q_18, .ref q_23, .ref q_24, .int 0, .int (-1), .int (-1), .int (-1)])), (q_1, .inr (7, [.ref q_4, .ref q_5, .int 0, .int 0, .int 0, .int 0, .int 0, .int 0, .long 0, .int 0, .int 0, .int 0])), (q_4, .inl (cy 0, 940, .inl (fun _ => 0))), (q_5, .inl (cy 2, 28, .inr (.inl g_6))), (q_7, .inr (0, [.ref q_10, .ref q_11, .ref q_12, .int 0, .int 0])), (q_10, .inl (cy 1, 40, .inl (fun _ => 0))), (q_11, .inl (cy 1, 40, .inl (fun _ => 0))), (q_12, .inl (cy 1, 40, .inl (fun _ => 0))), (q_13, .inl (cy 1, 4, .inl g_17)), (q_18, .inr (4, [.ref q_21, .ref q_22])), (q_21, .inl (cy 1, 6, .inl (fun _ => 0))), (q_22, .inl (cy 1, 6, .inl (fun _ => (-1)))), (q_23, .inl (cy 1, 8, .inl (fun _ => 0))), (q_24, .inr (6, [.ref q_27, .int 0])), (q_27, .inl (cy 0, 26, .inl (fun _ => 0))), (q_28, .inr (3, [.ref q_31, .ref q_32, .ref q_33, .ref q_34, .ref q_35, .int 0, .int 5, .int 0, .int 0])), (q_31, .inl (cy 2, 32, .inr (.inl (fun _ => 0)))), (q_32, .inl (cy 1, 4, .inl (fun _ => 0))), (q_33, .inl (cy 1, 6, .inl (fun _ => 0))), (q_34, .inl (cy 1, 6, .inl (fun _ => 0))), (q_35, .inl (cy 1, 8, .inl (fun _ => 0))), (q_36, .inr (8, [.ref q_28, .int 0, .ref q_39, .ref q_40, .ref q_41, .ref q_42, .ref q_43, .ref q_44, .ref q_45, .ref q_46, .ref q_47, .ref q_48, .int 0])), (q_39, .inl (cy 1, 36, .inl (fun _ => 0))), (q_40, .inl (cy 1, 6, .inl (fun _ => 0))), (q_41, .inl (cy 1, 6, .inl (fun _ => 0))), (q_42, .inl (cy 1, 6, .inl (fun _ => 0))), (q_43, .inl (cy 1, 6, .inl (fun _ => 0))), (q_44, .inl (cy 1, 8, .inl (fun _ => 0))), (q_46, .inl (cy 1, 8, .inl (fun _ => 0))), (q_47, .inl (cy 1, 8, .inl (fun _ => 0))), (q_48, .inl (cy 1, 6, .inl (fun _ => 0))), (q_45, .inl (cy 1, 8, .inl (fun _ => (-1)))), (q_49, .inr (8, [.ref q_28, .int 0, .ref q_52, .ref q_53, .ref q_54, .ref q_55, .ref q_56, .ref q_57, .ref q_58, .ref q_59, .ref q_60, .ref q_61, .int 0])), (q_52, .inl (cy 1, 36, .inl (fun _ => 0))), (q_53, .inl (cy 1, 6, .inl (fun _ => 0))), (q_54, .inl (cy 1, 6, .inl (fun _ => 0))), (q_55, .inl (cy 1, 6, .inl (fun _ => 0))), (q_56, .inl (cy 1, 6, .inl (fun _ => 0))), (q_57, .inl (cy 1, 8, .inl (fun _ => 0))), (q_59, .inl (cy 1, 8, .inl (fun _ => 0))), (q_60, .inl (cy 1, 8, .inl (fun _ => 0))), (q_61, .inl (cy 1, 6, .inl (fun _ => 0))), (q_58, .inl (cy 1, 8, .inl (fun _ => (-1)))), (q_62, .inr (1, [.ref q_65, .int 0, .int 0])), (q_65, .inl (cy 4, 9, .inr (.inr (.inr (.inr g_77))))), (q_66, .inr (8, [.ref q_28, .int 0, .ref q_67, .ref q_68, .ref q_69, .ref q_70, .ref q_71, .ref q_72, .ref q_73, .ref q_74, .ref q_75, .ref q_76, .int 0])), (q_67, .inl (cy 1, 36, .inl (fun _ => 0))), (q_68, .inl (cy 1, 6, .inl (fun _ => 0))), (q_69, .inl (cy 1, 6, .inl (fun _ => 0))), (q_70, .inl (cy 1, 6, .inl (fun _ => 0))), (q_71, .inl (cy 1, 6, .inl (fun _ => 0))), (q_72, .inl (cy 1, 8, .inl (fun _ => 0))), (q_74, .inl (cy 1, 8, .inl (fun _ => 0))), (q_75, .inl (cy 1, 8, .inl (fun _ => 0))), (q_76, .inl (cy 1, 6, .inl (fun _ => 0))), (q_73, .inl (cy 1, 8, .inl (fun _ => (-1))))] H := hP
  have hD : va_D A [(x, .inr (9, [.ref q_1, .ref q_36, .ref q_49, .ref q_62, .null, .null, .ref q_7, .ref q_13, .ref q_18, .ref q_23, .ref q_24, .int 0, .int (-1), .int (-1), .int (-1)])), (q_1, .inr (7, [.ref q_4, .ref q_5, .int 0, .int 0, .int 0, .int 0, .int 0, .int 0, .long 0, .int 0, .int 0, .int 0])), (q_4, .inl (cy 0, 940, .inl (fun _ => 0))), (q_5, .inl (cy 2, 28, .inr (.inl g_6))), (q_7, .inr (0, [.ref q_10, .ref q_11, .ref q_12, .int 0, .int 0])), (q_10, .inl (cy 1, 40, .inl (fun _ => 0))), (q_11, .inl (cy 1, 40, .inl (fun _ => 0))), (q_12, .inl (cy 1, 40, .inl (fun _ => 0))), (q_13, .inl (cy 1, 4, .inl g_17)), (q_18, .inr (4, [.ref q_21, .ref q_22])), (q_21, .inl (cy 1, 6, .inl (fun _ => 0))), (q_22, .inl (cy 1, 6, .inl (fun _ => (-1)))), (q_23, .inl (cy 1, 8, .inl (fun _ => 0))), (q_24, .inr (6, [.ref q_27, .int 0])), (q_27, .inl (cy 0, 26, .inl (fun _ => 0))), (q_28, .inr (3, [.ref q_31, .ref q_32, .ref q_33, .ref q_34, .ref q_35, .int 0, .int 5, .int 0, .int 0])), (q_31, .inl (cy 2, 32, .inr (.inl (fun _ => 0)))), (q_32, .inl (cy 1, 4, .inl (fun _ => 0))), (q_33, .inl (cy 1, 6, .inl (fun _ => 0))), (q_34, .inl (cy 1, 6, .inl (fun _ => 0))), (q_35, .inl (cy 1, 8, .inl (fun _ => 0))), (q_36, .inr (8, [.ref q_28, .int 0, .ref q_39, .ref q_40, .ref q_41, .ref q_42, .ref q_43, .ref q_44, .ref q_45, .ref q_46, .ref q_47, .ref q_48, .int 0])), (q_39, .inl (cy 1, 36, .inl (fun _ => 0))), (q_40, .inl (cy 1, 6, .inl (fun _ => 0))), (q_41, .inl (cy 1, 6, .inl (fun _ => 0))), (q_42, .inl (cy 1, 6, .inl (fun _ => 0))), (q_43, .inl (cy 1, 6, .inl (fun _ => 0))), (q_44, .inl (cy 1, 8, .inl (fun _ => 0))), (q_46, .inl (cy 1, 8, .inl (fun _ => 0))), (q_47, .inl (cy 1, 8, .inl (fun _ => 0))), (q_48, .inl (cy 1, 6, .inl (fun _ => 0))), (q_45, .inl (cy 1, 8, .inl (fun _ => (-1)))), (q_49, .inr (8, [.ref q_28, .int 0, .ref q_52, .ref q_53, .ref q_54, .ref q_55, .ref q_56, .ref q_57, .ref q_58, .ref q_59, .ref q_60, .ref q_61, .int 0])), (q_52, .inl (cy 1, 36, .inl (fun _ => 0))), (q_53, .inl (cy 1, 6, .inl (fun _ => 0))), (q_54, .inl (cy 1, 6, .inl (fun _ => 0))), (q_55, .inl (cy 1, 6, .inl (fun _ => 0))), (q_56, .inl (cy 1, 6, .inl (fun _ => 0))), (q_57, .inl (cy 1, 8, .inl (fun _ => 0))), (q_59, .inl (cy 1, 8, .inl (fun _ => 0))), (q_60, .inl (cy 1, 8, .inl (fun _ => 0))), (q_61, .inl (cy 1, 6, .inl (fun _ => 0))), (q_58, .inl (cy 1, 8, .inl (fun _ => (-1)))), (q_62, .inr (1, [.ref q_65, .int 0, .int 0])), (q_65, .inl (cy 4, 9, .inr (.inr (.inr (.inr g_77))))), (q_66, .inr (8, [.ref q_28, .int 0, .ref q_67, .ref q_68, .ref q_69, .ref q_70, .ref q_71, .ref q_72, .ref q_73, .ref q_74, .ref q_75, .ref q_76, .int 0])), (q_67, .inl (cy 1, 36, .inl (fun _ => 0))), (q_68, .inl (cy 1, 6, .inl (fun _ => 0))), (q_69, .inl (cy 1, 6, .inl (fun _ => 0))), (q_70, .inl (cy 1, 6, .inl (fun _ => 0))), (q_71, .inl (cy 1, 6, .inl (fun _ => 0))), (q_72, .inl (cy 1, 8, .inl (fun _ => 0))), (q_74, .inl (cy 1, 8, .inl (fun _ => 0))), (q_75, .inl (cy 1, 8, .inl (fun _ => 0))), (q_76, .inl (cy 1, 6, .inl (fun _ => 0))), (q_73, .inl (cy 1, 8, .inl (fun _ => (-1))))] := hD
  refine lv_aload_n hx hb dX9_init_143 rfl (lv_at hl 1 rfl) ?_
  refine lv_iconst (v := 2) hx hb dX9_init_144 (by decide) ?_
  refine newqC (C := "WonderParcels$Image") (N' := 2) hx hb hown (hts _ tw_323) hSD.2.2.1 hK hP hD hS hA 5 rfl (by decide) (by decide) (by decide) (Nat.le_of_ble_eq_true rfl) (Nat.le_of_ble_eq_true rfl) dX9_init_145 (fun q_78 H hP hD hS => ?_)
  have hP : va_P D classes [(x, .inr (9, [.ref q_1, .ref q_36, .ref q_49, .ref q_62, .null, .null, .ref q_7, .ref q_13, .ref q_18, .ref q_23, .ref q_24, .int 0, .int (-1), .int (-1), .int (-1)])), (q_1, .inr (7, [.ref q_4, .ref q_5, .int 0, .int 0, .int 0, .int 0, .int 0, .int 0, .long 0, .int 0, .int 0, .int 0])), (q_4, .inl (cy 0, 940, .inl (fun _ => 0))), (q_5, .inl (cy 2, 28, .inr (.inl g_6))), (q_7, .inr (0, [.ref q_10, .ref q_11, .ref q_12, .int 0, .int 0])), (q_10, .inl (cy 1, 40, .inl (fun _ => 0))), (q_11, .inl (cy 1, 40, .inl (fun _ => 0))), (q_12, .inl (cy 1, 40, .inl (fun _ => 0))), (q_13, .inl (cy 1, 4, .inl g_17)), (q_18, .inr (4, [.ref q_21, .ref q_22])), (q_21, .inl (cy 1, 6, .inl (fun _ => 0))), (q_22, .inl (cy 1, 6, .inl (fun _ => (-1)))), (q_23, .inl (cy 1, 8, .inl (fun _ => 0))), (q_24, .inr (6, [.ref q_27, .int 0])), (q_27, .inl (cy 0, 26, .inl (fun _ => 0))), (q_28, .inr (3, [.ref q_31, .ref q_32, .ref q_33, .ref q_34, .ref q_35, .int 0, .int 5, .int 0, .int 0])), (q_31, .inl (cy 2, 32, .inr (.inl (fun _ => 0)))), (q_32, .inl (cy 1, 4, .inl (fun _ => 0))), (q_33, .inl (cy 1, 6, .inl (fun _ => 0))), (q_34, .inl (cy 1, 6, .inl (fun _ => 0))), (q_35, .inl (cy 1, 8, .inl (fun _ => 0))), (q_36, .inr (8, [.ref q_28, .int 0, .ref q_39, .ref q_40, .ref q_41, .ref q_42, .ref q_43, .ref q_44, .ref q_45, .ref q_46, .ref q_47, .ref q_48, .int 0])), (q_39, .inl (cy 1, 36, .inl (fun _ => 0))), (q_40, .inl (cy 1, 6, .inl (fun _ => 0))), (q_41, .inl (cy 1, 6, .inl (fun _ => 0))), (q_42, .inl (cy 1, 6, .inl (fun _ => 0))), (q_43, .inl (cy 1, 6, .inl (fun _ => 0))), (q_44, .inl (cy 1, 8, .inl (fun _ => 0))), (q_46, .inl (cy 1, 8, .inl (fun _ => 0))), (q_47, .inl (cy 1, 8, .inl (fun _ => 0))), (q_48, .inl (cy 1, 6, .inl (fun _ => 0))), (q_45, .inl (cy 1, 8, .inl (fun _ => (-1)))), (q_49, .inr (8, [.ref q_28, .int 0, .ref q_52, .ref q_53, .ref q_54, .ref q_55, .ref q_56, .ref q_57, .ref q_58, .ref q_59, .ref q_60, .ref q_61, .int 0])), (q_52, .inl (cy 1, 36, .inl (fun _ => 0))), (q_53, .inl (cy 1, 6, .inl (fun _ => 0))), (q_54, .inl (cy 1, 6, .inl (fun _ => 0))), (q_55, .inl (cy 1, 6, .inl (fun _ => 0))), (q_56, .inl (cy 1, 6, .inl (fun _ => 0))), (q_57, .inl (cy 1, 8, .inl (fun _ => 0))), (q_59, .inl (cy 1, 8, .inl (fun _ => 0))), (q_60, .inl (cy 1, 8, .inl (fun _ => 0))), (q_61, .inl (cy 1, 6, .inl (fun _ => 0))), (q_58, .inl (cy 1, 8, .inl (fun _ => (-1)))), (q_62, .inr (1, [.ref q_65, .int 0, .int 0])), (q_65, .inl (cy 4, 9, .inr (.inr (.inr (.inr g_77))))), (q_66, .inr (8, [.ref q_28, .int 0, .ref q_67, .ref q_68, .ref q_69, .ref q_70, .ref q_71, .ref q_72, .ref q_73, .ref q_74, .ref q_75, .ref q_76, .int 0])), (q_67, .inl (cy 1, 36, .inl (fun _ => 0))), (q_68, .inl (cy 1, 6, .inl (fun _ => 0))), (q_69, .inl (cy 1, 6, .inl (fun _ => 0))), (q_70, .inl (cy 1, 6, .inl (fun _ => 0))), (q_71, .inl (cy 1, 6, .inl (fun _ => 0))), (q_72, .inl (cy 1, 8, .inl (fun _ => 0))), (q_74, .inl (cy 1, 8, .inl (fun _ => 0))), (q_75, .inl (cy 1, 8, .inl (fun _ => 0))), (q_76, .inl (cy 1, 6, .inl (fun _ => 0))), (q_73, .inl (cy 1, 8, .inl (fun _ => (-1)))), (q_78, .inl (cy 5, 2, .inr (.inr (.inr (.inr (fun _ => none))))))] H := hP
  have hD : va_D A [(x, .inr (9, [.ref q_1, .ref q_36, .ref q_49, .ref q_62, .null, .null, .ref q_7, .ref q_13, .ref q_18, .ref q_23, .ref q_24, .int 0, .int (-1), .int (-1), .int (-1)])), (q_1, .inr (7, [.ref q_4, .ref q_5, .int 0, .int 0, .int 0, .int 0, .int 0, .int 0, .long 0, .int 0, .int 0, .int 0])), (q_4, .inl (cy 0, 940, .inl (fun _ => 0))), (q_5, .inl (cy 2, 28, .inr (.inl g_6))), (q_7, .inr (0, [.ref q_10, .ref q_11, .ref q_12, .int 0, .int 0])), (q_10, .inl (cy 1, 40, .inl (fun _ => 0))), (q_11, .inl (cy 1, 40, .inl (fun _ => 0))), (q_12, .inl (cy 1, 40, .inl (fun _ => 0))), (q_13, .inl (cy 1, 4, .inl g_17)), (q_18, .inr (4, [.ref q_21, .ref q_22])), (q_21, .inl (cy 1, 6, .inl (fun _ => 0))), (q_22, .inl (cy 1, 6, .inl (fun _ => (-1)))), (q_23, .inl (cy 1, 8, .inl (fun _ => 0))), (q_24, .inr (6, [.ref q_27, .int 0])), (q_27, .inl (cy 0, 26, .inl (fun _ => 0))), (q_28, .inr (3, [.ref q_31, .ref q_32, .ref q_33, .ref q_34, .ref q_35, .int 0, .int 5, .int 0, .int 0])), (q_31, .inl (cy 2, 32, .inr (.inl (fun _ => 0)))), (q_32, .inl (cy 1, 4, .inl (fun _ => 0))), (q_33, .inl (cy 1, 6, .inl (fun _ => 0))), (q_34, .inl (cy 1, 6, .inl (fun _ => 0))), (q_35, .inl (cy 1, 8, .inl (fun _ => 0))), (q_36, .inr (8, [.ref q_28, .int 0, .ref q_39, .ref q_40, .ref q_41, .ref q_42, .ref q_43, .ref q_44, .ref q_45, .ref q_46, .ref q_47, .ref q_48, .int 0])), (q_39, .inl (cy 1, 36, .inl (fun _ => 0))), (q_40, .inl (cy 1, 6, .inl (fun _ => 0))), (q_41, .inl (cy 1, 6, .inl (fun _ => 0))), (q_42, .inl (cy 1, 6, .inl (fun _ => 0))), (q_43, .inl (cy 1, 6, .inl (fun _ => 0))), (q_44, .inl (cy 1, 8, .inl (fun _ => 0))), (q_46, .inl (cy 1, 8, .inl (fun _ => 0))), (q_47, .inl (cy 1, 8, .inl (fun _ => 0))), (q_48, .inl (cy 1, 6, .inl (fun _ => 0))), (q_45, .inl (cy 1, 8, .inl (fun _ => (-1)))), (q_49, .inr (8, [.ref q_28, .int 0, .ref q_52, .ref q_53, .ref q_54, .ref q_55, .ref q_56, .ref q_57, .ref q_58, .ref q_59, .ref q_60, .ref q_61, .int 0])), (q_52, .inl (cy 1, 36, .inl (fun _ => 0))), (q_53, .inl (cy 1, 6, .inl (fun _ => 0))), (q_54, .inl (cy 1, 6, .inl (fun _ => 0))), (q_55, .inl (cy 1, 6, .inl (fun _ => 0))), (q_56, .inl (cy 1, 6, .inl (fun _ => 0))), (q_57, .inl (cy 1, 8, .inl (fun _ => 0))), (q_59, .inl (cy 1, 8, .inl (fun _ => 0))), (q_60, .inl (cy 1, 8, .inl (fun _ => 0))), (q_61, .inl (cy 1, 6, .inl (fun _ => 0))), (q_58, .inl (cy 1, 8, .inl (fun _ => (-1)))), (q_62, .inr (1, [.ref q_65, .int 0, .int 0])), (q_65, .inl (cy 4, 9, .inr (.inr (.inr (.inr g_77))))), (q_66, .inr (8, [.ref q_28, .int 0, .ref q_67, .ref q_68, .ref q_69, .ref q_70, .ref q_71, .ref q_72, .ref q_73, .ref q_74, .ref q_75, .ref q_76, .int 0])), (q_67, .inl (cy 1, 36, .inl (fun _ => 0))), (q_68, .inl (cy 1, 6, .inl (fun _ => 0))), (q_69, .inl (cy 1, 6, .inl (fun _ => 0))), (q_70, .inl (cy 1, 6, .inl (fun _ => 0))), (q_71, .inl (cy 1, 6, .inl (fun _ => 0))), (q_72, .inl (cy 1, 8, .inl (fun _ => 0))), (q_74, .inl (cy 1, 8, .inl (fun _ => 0))), (q_75, .inl (cy 1, 8, .inl (fun _ => 0))), (q_76, .inl (cy 1, 6, .inl (fun _ => 0))), (q_73, .inl (cy 1, 8, .inl (fun _ => (-1)))), (q_78, .inl (cy 5, 2, .inr (.inr (.inr (.inr (fun _ => none))))))] := hD
  refine W.widen (k := 144) (n := 2459) (Nat.le_of_ble_eq_true rfl) (Nat.le_of_ble_eq_true rfl) ?_
  refine lv_dup hx hb dX9_init_148 rfl ?_
  refine lv_iconst (v := 0) hx hb dX9_init_149 (by decide) ?_
  refine va_new (ci := 2) (fs := [.null, .null, .int 0]) (C := RX2) (T := TX2) (N := 3) hx hb hts inX2 tyX2 tyX2_ok hown (hts _ tw_323) (hts _ tw_325) (hts _ tw_14) hK hP hD hS hA rfl (dfX2) (Nat.le_of_ble_eq_true rfl) (Nat.le_of_ble_eq_true rfl) dX9_init_150 (fun q_79 H hP hD hS => ?_)
  have hP : va_P D classes [(x, .inr (9, [.ref q_1, .ref q_36, .ref q_49, .ref q_62, .null, .null, .ref q_7, .ref q_13, .ref q_18, .ref q_23, .ref q_24, .int 0, .int (-1), .int (-1), .int (-1)])), (q_1, .inr (7, [.ref q_4, .ref q_5, .int 0, .int 0, .int 0, .int 0, .int 0, .int 0, .long 0, .int 0, .int 0, .int 0])), (q_4, .inl (cy 0, 940, .inl (fun _ => 0))), (q_5, .inl (cy 2, 28, .inr (.inl g_6))), (q_7, .inr (0, [.ref q_10, .ref q_11, .ref q_12, .int 0, .int 0])), (q_10, .inl (cy 1, 40, .inl (fun _ => 0))), (q_11, .inl (cy 1, 40, .inl (fun _ => 0))), (q_12, .inl (cy 1, 40, .inl (fun _ => 0))), (q_13, .inl (cy 1, 4, .inl g_17)), (q_18, .inr (4, [.ref q_21, .ref q_22])), (q_21, .inl (cy 1, 6, .inl (fun _ => 0))), (q_22, .inl (cy 1, 6, .inl (fun _ => (-1)))), (q_23, .inl (cy 1, 8, .inl (fun _ => 0))), (q_24, .inr (6, [.ref q_27, .int 0])), (q_27, .inl (cy 0, 26, .inl (fun _ => 0))), (q_28, .inr (3, [.ref q_31, .ref q_32, .ref q_33, .ref q_34, .ref q_35, .int 0, .int 5, .int 0, .int 0])), (q_31, .inl (cy 2, 32, .inr (.inl (fun _ => 0)))), (q_32, .inl (cy 1, 4, .inl (fun _ => 0))), (q_33, .inl (cy 1, 6, .inl (fun _ => 0))), (q_34, .inl (cy 1, 6, .inl (fun _ => 0))), (q_35, .inl (cy 1, 8, .inl (fun _ => 0))), (q_36, .inr (8, [.ref q_28, .int 0, .ref q_39, .ref q_40, .ref q_41, .ref q_42, .ref q_43, .ref q_44, .ref q_45, .ref q_46, .ref q_47, .ref q_48, .int 0])), (q_39, .inl (cy 1, 36, .inl (fun _ => 0))), (q_40, .inl (cy 1, 6, .inl (fun _ => 0))), (q_41, .inl (cy 1, 6, .inl (fun _ => 0))), (q_42, .inl (cy 1, 6, .inl (fun _ => 0))), (q_43, .inl (cy 1, 6, .inl (fun _ => 0))), (q_44, .inl (cy 1, 8, .inl (fun _ => 0))), (q_46, .inl (cy 1, 8, .inl (fun _ => 0))), (q_47, .inl (cy 1, 8, .inl (fun _ => 0))), (q_48, .inl (cy 1, 6, .inl (fun _ => 0))), (q_45, .inl (cy 1, 8, .inl (fun _ => (-1)))), (q_49, .inr (8, [.ref q_28, .int 0, .ref q_52, .ref q_53, .ref q_54, .ref q_55, .ref q_56, .ref q_57, .ref q_58, .ref q_59, .ref q_60, .ref q_61, .int 0])), (q_52, .inl (cy 1, 36, .inl (fun _ => 0))), (q_53, .inl (cy 1, 6, .inl (fun _ => 0))), (q_54, .inl (cy 1, 6, .inl (fun _ => 0))), (q_55, .inl (cy 1, 6, .inl (fun _ => 0))), (q_56, .inl (cy 1, 6, .inl (fun _ => 0))), (q_57, .inl (cy 1, 8, .inl (fun _ => 0))), (q_59, .inl (cy 1, 8, .inl (fun _ => 0))), (q_60, .inl (cy 1, 8, .inl (fun _ => 0))), (q_61, .inl (cy 1, 6, .inl (fun _ => 0))), (q_58, .inl (cy 1, 8, .inl (fun _ => (-1)))), (q_62, .inr (1, [.ref q_65, .int 0, .int 0])), (q_65, .inl (cy 4, 9, .inr (.inr (.inr (.inr g_77))))), (q_66, .inr (8, [.ref q_28, .int 0, .ref q_67, .ref q_68, .ref q_69, .ref q_70, .ref q_71, .ref q_72, .ref q_73, .ref q_74, .ref q_75, .ref q_76, .int 0])), (q_67, .inl (cy 1, 36, .inl (fun _ => 0))), (q_68, .inl (cy 1, 6, .inl (fun _ => 0))), (q_69, .inl (cy 1, 6, .inl (fun _ => 0))), (q_70, .inl (cy 1, 6, .inl (fun _ => 0))), (q_71, .inl (cy 1, 6, .inl (fun _ => 0))), (q_72, .inl (cy 1, 8, .inl (fun _ => 0))), (q_74, .inl (cy 1, 8, .inl (fun _ => 0))), (q_75, .inl (cy 1, 8, .inl (fun _ => 0))), (q_76, .inl (cy 1, 6, .inl (fun _ => 0))), (q_73, .inl (cy 1, 8, .inl (fun _ => (-1)))), (q_78, .inl (cy 5, 2, .inr (.inr (.inr (.inr (fun _ => none)))))), (q_79, .inr (2, [.null, .null, .int 0]))] H := hP
  have hD : va_D A [(x, .inr (9, [.ref q_1, .ref q_36, .ref q_49, .ref q_62, .null, .null, .ref q_7, .ref q_13, .ref q_18, .ref q_23, .ref q_24, .int 0, .int (-1), .int (-1), .int (-1)])), (q_1, .inr (7, [.ref q_4, .ref q_5, .int 0, .int 0, .int 0, .int 0, .int 0, .int 0, .long 0, .int 0, .int 0, .int 0])), (q_4, .inl (cy 0, 940, .inl (fun _ => 0))), (q_5, .inl (cy 2, 28, .inr (.inl g_6))), (q_7, .inr (0, [.ref q_10, .ref q_11, .ref q_12, .int 0, .int 0])), (q_10, .inl (cy 1, 40, .inl (fun _ => 0))), (q_11, .inl (cy 1, 40, .inl (fun _ => 0))), (q_12, .inl (cy 1, 40, .inl (fun _ => 0))), (q_13, .inl (cy 1, 4, .inl g_17)), (q_18, .inr (4, [.ref q_21, .ref q_22])), (q_21, .inl (cy 1, 6, .inl (fun _ => 0))), (q_22, .inl (cy 1, 6, .inl (fun _ => (-1)))), (q_23, .inl (cy 1, 8, .inl (fun _ => 0))), (q_24, .inr (6, [.ref q_27, .int 0])), (q_27, .inl (cy 0, 26, .inl (fun _ => 0))), (q_28, .inr (3, [.ref q_31, .ref q_32, .ref q_33, .ref q_34, .ref q_35, .int 0, .int 5, .int 0, .int 0])), (q_31, .inl (cy 2, 32, .inr (.inl (fun _ => 0)))), (q_32, .inl (cy 1, 4, .inl (fun _ => 0))), (q_33, .inl (cy 1, 6, .inl (fun _ => 0))), (q_34, .inl (cy 1, 6, .inl (fun _ => 0))), (q_35, .inl (cy 1, 8, .inl (fun _ => 0))), (q_36, .inr (8, [.ref q_28, .int 0, .ref q_39, .ref q_40, .ref q_41, .ref q_42, .ref q_43, .ref q_44, .ref q_45, .ref q_46, .ref q_47, .ref q_48, .int 0])), (q_39, .inl (cy 1, 36, .inl (fun _ => 0))), (q_40, .inl (cy 1, 6, .inl (fun _ => 0))), (q_41, .inl (cy 1, 6, .inl (fun _ => 0))), (q_42, .inl (cy 1, 6, .inl (fun _ => 0))), (q_43, .inl (cy 1, 6, .inl (fun _ => 0))), (q_44, .inl (cy 1, 8, .inl (fun _ => 0))), (q_46, .inl (cy 1, 8, .inl (fun _ => 0))), (q_47, .inl (cy 1, 8, .inl (fun _ => 0))), (q_48, .inl (cy 1, 6, .inl (fun _ => 0))), (q_45, .inl (cy 1, 8, .inl (fun _ => (-1)))), (q_49, .inr (8, [.ref q_28, .int 0, .ref q_52, .ref q_53, .ref q_54, .ref q_55, .ref q_56, .ref q_57, .ref q_58, .ref q_59, .ref q_60, .ref q_61, .int 0])), (q_52, .inl (cy 1, 36, .inl (fun _ => 0))), (q_53, .inl (cy 1, 6, .inl (fun _ => 0))), (q_54, .inl (cy 1, 6, .inl (fun _ => 0))), (q_55, .inl (cy 1, 6, .inl (fun _ => 0))), (q_56, .inl (cy 1, 6, .inl (fun _ => 0))), (q_57, .inl (cy 1, 8, .inl (fun _ => 0))), (q_59, .inl (cy 1, 8, .inl (fun _ => 0))), (q_60, .inl (cy 1, 8, .inl (fun _ => 0))), (q_61, .inl (cy 1, 6, .inl (fun _ => 0))), (q_58, .inl (cy 1, 8, .inl (fun _ => (-1)))), (q_62, .inr (1, [.ref q_65, .int 0, .int 0])), (q_65, .inl (cy 4, 9, .inr (.inr (.inr (.inr g_77))))), (q_66, .inr (8, [.ref q_28, .int 0, .ref q_67, .ref q_68, .ref q_69, .ref q_70, .ref q_71, .ref q_72, .ref q_73, .ref q_74, .ref q_75, .ref q_76, .int 0])), (q_67, .inl (cy 1, 36, .inl (fun _ => 0))), (q_68, .inl (cy 1, 6, .inl (fun _ => 0))), (q_69, .inl (cy 1, 6, .inl (fun _ => 0))), (q_70, .inl (cy 1, 6, .inl (fun _ => 0))), (q_71, .inl (cy 1, 6, .inl (fun _ => 0))), (q_72, .inl (cy 1, 8, .inl (fun _ => 0))), (q_74, .inl (cy 1, 8, .inl (fun _ => 0))), (q_75, .inl (cy 1, 8, .inl (fun _ => 0))), (q_76, .inl (cy 1, 6, .inl (fun _ => 0))), (q_73, .inl (cy 1, 8, .inl (fun _ => (-1)))), (q_78, .inl (cy 5, 2, .inr (.inr (.inr (.inr (fun _ => none)))))), (q_79, .inr (2, [.null, .null, .int 0]))] := hD
  refine W.widen (k := 145) (n := 2462) (Nat.le_of_ble_eq_true rfl) (Nat.le_of_ble_eq_true rfl) ?_
  refine lv_dup hx hb dX9_init_153 rfl ?_
  refine lv_aload_n hx hb dX9_init_154 rfl (lv_at hl 0 rfl) ?_
  refine endv (wr := [(x, .inr (9, [.ref q_1, .ref q_36, .ref q_49, .ref q_62, .null, .null, .ref q_7, .ref q_13, .ref q_18, .ref q_23, .ref q_24, .int 0, .int (-1), .int (-1), .int (-1)])), (q_1, .inr (7, [.ref q_4, .ref q_5, .int 0, .int 0, .int 0, .int 0, .int 0, .int 0, .long 0, .int 0, .int 0, .int 0])), (q_4, .inl (cy 0, 940, .inl (fun _ => 0))), (q_5, .inl (cy 2, 28, .inr (.inl g_6))), (q_7, .inr (0, [.ref q_10, .ref q_11, .ref q_12, .int 0, .int 0])), (q_10, .inl (cy 1, 40, .inl (fun _ => 0))), (q_11, .inl (cy 1, 40, .inl (fun _ => 0))), (q_12, .inl (cy 1, 40, .inl (fun _ => 0))), (q_13, .inl (cy 1, 4, .inl g_17)), (q_18, .inr (4, [.ref q_21, .ref q_22])), (q_21, .inl (cy 1, 6, .inl (fun _ => 0))), (q_22, .inl (cy 1, 6, .inl (fun _ => (-1)))), (q_23, .inl (cy 1, 8, .inl (fun _ => 0))), (q_24, .inr (6, [.ref q_27, .int 0])), (q_27, .inl (cy 0, 26, .inl (fun _ => 0))), (q_28, .inr (3, [.ref q_31, .ref q_32, .ref q_33, .ref q_34, .ref q_35, .int 0, .int 5, .int 0, .int 0])), (q_31, .inl (cy 2, 32, .inr (.inl (fun _ => 0)))), (q_32, .inl (cy 1, 4, .inl (fun _ => 0))), (q_33, .inl (cy 1, 6, .inl (fun _ => 0))), (q_34, .inl (cy 1, 6, .inl (fun _ => 0))), (q_35, .inl (cy 1, 8, .inl (fun _ => 0))), (q_36, .inr (8, [.ref q_28, .int 0, .ref q_39, .ref q_40, .ref q_41, .ref q_42, .ref q_43, .ref q_44, .ref q_45, .ref q_46, .ref q_47, .ref q_48, .int 0])), (q_39, .inl (cy 1, 36, .inl (fun _ => 0))), (q_40, .inl (cy 1, 6, .inl (fun _ => 0))), (q_41, .inl (cy 1, 6, .inl (fun _ => 0))), (q_42, .inl (cy 1, 6, .inl (fun _ => 0))), (q_43, .inl (cy 1, 6, .inl (fun _ => 0))), (q_44, .inl (cy 1, 8, .inl (fun _ => 0))), (q_46, .inl (cy 1, 8, .inl (fun _ => 0))), (q_47, .inl (cy 1, 8, .inl (fun _ => 0))), (q_48, .inl (cy 1, 6, .inl (fun _ => 0))), (q_45, .inl (cy 1, 8, .inl (fun _ => (-1)))), (q_49, .inr (8, [.ref q_28, .int 0, .ref q_52, .ref q_53, .ref q_54, .ref q_55, .ref q_56, .ref q_57, .ref q_58, .ref q_59, .ref q_60, .ref q_61, .int 0])), (q_52, .inl (cy 1, 36, .inl (fun _ => 0))), (q_53, .inl (cy 1, 6, .inl (fun _ => 0))), (q_54, .inl (cy 1, 6, .inl (fun _ => 0))), (q_55, .inl (cy 1, 6, .inl (fun _ => 0))), (q_56, .inl (cy 1, 6, .inl (fun _ => 0))), (q_57, .inl (cy 1, 8, .inl (fun _ => 0))), (q_59, .inl (cy 1, 8, .inl (fun _ => 0))), (q_60, .inl (cy 1, 8, .inl (fun _ => 0))), (q_61, .inl (cy 1, 6, .inl (fun _ => 0))), (q_58, .inl (cy 1, 8, .inl (fun _ => (-1)))), (q_62, .inr (1, [.ref q_65, .int 0, .int 0])), (q_65, .inl (cy 4, 9, .inr (.inr (.inr (.inr g_77))))), (q_66, .inr (8, [.ref q_28, .int 0, .ref q_67, .ref q_68, .ref q_69, .ref q_70, .ref q_71, .ref q_72, .ref q_73, .ref q_74, .ref q_75, .ref q_76, .int 0])), (q_67, .inl (cy 1, 36, .inl (fun _ => 0))), (q_68, .inl (cy 1, 6, .inl (fun _ => 0))), (q_69, .inl (cy 1, 6, .inl (fun _ => 0))), (q_70, .inl (cy 1, 6, .inl (fun _ => 0))), (q_71, .inl (cy 1, 6, .inl (fun _ => 0))), (q_72, .inl (cy 1, 8, .inl (fun _ => 0))), (q_74, .inl (cy 1, 8, .inl (fun _ => 0))), (q_75, .inl (cy 1, 8, .inl (fun _ => 0))), (q_76, .inl (cy 1, 6, .inl (fun _ => 0))), (q_73, .inl (cy 1, 8, .inl (fun _ => (-1)))), (q_78, .inl (cy 5, 2, .inr (.inr (.inr (.inr (fun _ => none))))))]) (va_runI (As := [.ref q_28]) (rest := [.ref q_79, .int 0, .ref q_78, .ref q_78, .ref x]) ⟨hx, hb, hml, hown, hts⟩ (c_Image_init l D cy z H.size q_79 q_28) (cwI 1 hts (gC tw_328) rfl rfl rfl (hts _ tw_14) (hts _ tw_326) (hts _ tw_327) rfl (by decide +kernel) ⟨Nat.le_of_ble_eq_true rfl, Nat.le_of_ble_eq_true rfl⟩) (preS hP hD hK hSD hS hA [57] rfl (by decide)) rfl rfl hl.1 rfl (lv_room (Nat.le_of_ble_eq_true rfl)) dX9_init_155 ⟨Nat.le_of_ble_eq_true rfl, Nat.le_of_ble_eq_true rfl⟩) hP hD hS hA [57] [0, 1, 2, 3, 4, 5, 6, 7, 8, 9, 10, 11, 12, 13, 14, 15, 16, 17, 18, 19, 20, 21, 22, 23, 24, 25, 26, 27, 28, 29, 30, 31, 32, 33, 34, 35, 36, 37, 38, 39, 40, 41, 42, 43, 44, 45, 46, 47, 48, 49, 50, 51, 52, 53, 54, 55, 56] rfl rfl (by decide) (by decide) (fun u_80 H locs hw_81 hP hD hS => ?_)
  obtain ⟨q_82, q_83, q_84, q_85, q_86, q_87, q_88, q_89, q_90, q_91, q_92⟩ := u_80
  have hP : va_P D classes [(x, .inr (9, [.ref q_1, .ref q_36, .ref q_49, .ref q_62, .null, .null, .ref q_7, .ref q_13, .ref q_18, .ref q_23, .ref q_24, .int 0, .int (-1), .int (-1), .int (-1)])), (q_1, .inr (7, [.ref q_4, .ref q_5, .int 0, .int 0, .int 0, .int 0, .int 0, .int 0, .long 0, .int 0, .int 0, .int 0])), (q_4, .inl (cy 0, 940, .inl (fun _ => 0))), (q_5, .inl (cy 2, 28, .inr (.inl g_6))), (q_7, .inr (0, [.ref q_10, .ref q_11, .ref q_12, .int 0, .int 0])), (q_10, .inl (cy 1, 40, .inl (fun _ => 0))), (q_11, .inl (cy 1, 40, .inl (fun _ => 0))), (q_12, .inl (cy 1, 40, .inl (fun _ => 0))), (q_13, .inl (cy 1, 4, .inl g_17)), (q_18, .inr (4, [.ref q_21, .ref q_22])), (q_21, .inl (cy 1, 6, .inl (fun _ => 0))), (q_22, .inl (cy 1, 6, .inl (fun _ => (-1)))), (q_23, .inl (cy 1, 8, .inl (fun _ => 0))), (q_24, .inr (6, [.ref q_27, .int 0])), (q_27, .inl (cy 0, 26, .inl (fun _ => 0))), (q_28, .inr (3, [.ref q_31, .ref q_32, .ref q_33, .ref q_34, .ref q_35, .int 0, .int 5, .int 0, .int 0])), (q_31, .inl (cy 2, 32, .inr (.inl (fun _ => 0)))), (q_32, .inl (cy 1, 4, .inl (fun _ => 0))), (q_33, .inl (cy 1, 6, .inl (fun _ => 0))), (q_34, .inl (cy 1, 6, .inl (fun _ => 0))), (q_35, .inl (cy 1, 8, .inl (fun _ => 0))), (q_36, .inr (8, [.ref q_28, .int 0, .ref q_39, .ref q_40, .ref q_41, .ref q_42, .ref q_43, .ref q_44, .ref q_45, .ref q_46, .ref q_47, .ref q_48, .int 0])), (q_39, .inl (cy 1, 36, .inl (fun _ => 0))), (q_40, .inl (cy 1, 6, .inl (fun _ => 0))), (q_41, .inl (cy 1, 6, .inl (fun _ => 0))), (q_42, .inl (cy 1, 6, .inl (fun _ => 0))), (q_43, .inl (cy 1, 6, .inl (fun _ => 0))), (q_44, .inl (cy 1, 8, .inl (fun _ => 0))), (q_46, .inl (cy 1, 8, .inl (fun _ => 0))), (q_47, .inl (cy 1, 8, .inl (fun _ => 0))), (q_48, .inl (cy 1, 6, .inl (fun _ => 0))), (q_45, .inl (cy 1, 8, .inl (fun _ => (-1)))), (q_49, .inr (8, [.ref q_28, .int 0, .ref q_52, .ref q_53, .ref q_54, .ref q_55, .ref q_56, .ref q_57, .ref q_58, .ref q_59, .ref q_60, .ref q_61, .int 0])), (q_52, .inl (cy 1, 36, .inl (fun _ => 0))), (q_53, .inl (cy 1, 6, .inl (fun _ => 0))), (q_54, .inl (cy 1, 6, .inl (fun _ => 0))), (q_55, .inl (cy 1, 6, .inl (fun _ => 0))), (q_56, .inl (cy 1, 6, .inl (fun _ => 0))), (q_57, .inl (cy 1, 8, .inl (fun _ => 0))), (q_59, .inl (cy 1, 8, .inl (fun _ => 0))), (q_60, .inl (cy 1, 8, .inl (fun _ => 0))), (q_61, .inl (cy 1, 6, .inl (fun _ => 0))), (q_58, .inl (cy 1, 8, .inl (fun _ => (-1)))), (q_62, .inr (1, [.ref q_65, .int 0, .int 0])), (q_65, .inl (cy 4, 9, .inr (.inr (.inr (.inr g_77))))), (q_66, .inr (8, [.ref q_28, .int 0, .ref q_67, .ref q_68, .ref q_69, .ref q_70, .ref q_71, .ref q_72, .ref q_73, .ref q_74, .ref q_75, .ref q_76, .int 0])), (q_67, .inl (cy 1, 36, .inl (fun _ => 0))), (q_68, .inl (cy 1, 6, .inl (fun _ => 0))), (q_69, .inl (cy 1, 6, .inl (fun _ => 0))), (q_70, .inl (cy 1, 6, .inl (fun _ => 0))), (q_71, .inl (cy 1, 6, .inl (fun _ => 0))), (q_72, .inl (cy 1, 8, .inl (fun _ => 0))), (q_74, .inl (cy 1, 8, .inl (fun _ => 0))), (q_75, .inl (cy 1, 8, .inl (fun _ => 0))), (q_76, .inl (cy 1, 6, .inl (fun _ => 0))), (q_73, .inl (cy 1, 8, .inl (fun _ => (-1)))), (q_78, .inl (cy 5, 2, .inr (.inr (.inr (.inr (fun _ => none)))))), (q_79, .inr (2, [.ref q_82, .null, .int 0])), (q_82, .inr (8, [.ref q_28, .int 0, .ref q_83, .ref q_84, .ref q_85, .ref q_86, .ref q_87, .ref q_88, .ref q_89, .ref q_90, .ref q_91, .ref q_92, .int 0])), (q_83, .inl (cy 1, 36, .inl (fun _ => 0))), (q_84, .inl (cy 1, 6, .inl (fun _ => 0))), (q_85, .inl (cy 1, 6, .inl (fun _ => 0))), (q_86, .inl (cy 1, 6, .inl (fun _ => 0))), (q_87, .inl (cy 1, 6, .inl (fun _ => 0))), (q_88, .inl (cy 1, 8, .inl (fun _ => 0))), (q_90, .inl (cy 1, 8, .inl (fun _ => 0))), (q_91, .inl (cy 1, 8, .inl (fun _ => 0))), (q_92, .inl (cy 1, 6, .inl (fun _ => 0))), (q_89, .inl (cy 1, 8, .inl (fun _ => (-1))))] H := hP
  have hD : va_D A [(x, .inr (9, [.ref q_1, .ref q_36, .ref q_49, .ref q_62, .null, .null, .ref q_7, .ref q_13, .ref q_18, .ref q_23, .ref q_24, .int 0, .int (-1), .int (-1), .int (-1)])), (q_1, .inr (7, [.ref q_4, .ref q_5, .int 0, .int 0, .int 0, .int 0, .int 0, .int 0, .long 0, .int 0, .int 0, .int 0])), (q_4, .inl (cy 0, 940, .inl (fun _ => 0))), (q_5, .inl (cy 2, 28, .inr (.inl g_6))), (q_7, .inr (0, [.ref q_10, .ref q_11, .ref q_12, .int 0, .int 0])), (q_10, .inl (cy 1, 40, .inl (fun _ => 0))), (q_11, .inl (cy 1, 40, .inl (fun _ => 0))), (q_12, .inl (cy 1, 40, .inl (fun _ => 0))), (q_13, .inl (cy 1, 4, .inl g_17)), (q_18, .inr (4, [.ref q_21, .ref q_22])), (q_21, .inl (cy 1, 6, .inl (fun _ => 0))), (q_22, .inl (cy 1, 6, .inl (fun _ => (-1)))), (q_23, .inl (cy 1, 8, .inl (fun _ => 0))), (q_24, .inr (6, [.ref q_27, .int 0])), (q_27, .inl (cy 0, 26, .inl (fun _ => 0))), (q_28, .inr (3, [.ref q_31, .ref q_32, .ref q_33, .ref q_34, .ref q_35, .int 0, .int 5, .int 0, .int 0])), (q_31, .inl (cy 2, 32, .inr (.inl (fun _ => 0)))), (q_32, .inl (cy 1, 4, .inl (fun _ => 0))), (q_33, .inl (cy 1, 6, .inl (fun _ => 0))), (q_34, .inl (cy 1, 6, .inl (fun _ => 0))), (q_35, .inl (cy 1, 8, .inl (fun _ => 0))), (q_36, .inr (8, [.ref q_28, .int 0, .ref q_39, .ref q_40, .ref q_41, .ref q_42, .ref q_43, .ref q_44, .ref q_45, .ref q_46, .ref q_47, .ref q_48, .int 0])), (q_39, .inl (cy 1, 36, .inl (fun _ => 0))), (q_40, .inl (cy 1, 6, .inl (fun _ => 0))), (q_41, .inl (cy 1, 6, .inl (fun _ => 0))), (q_42, .inl (cy 1, 6, .inl (fun _ => 0))), (q_43, .inl (cy 1, 6, .inl (fun _ => 0))), (q_44, .inl (cy 1, 8, .inl (fun _ => 0))), (q_46, .inl (cy 1, 8, .inl (fun _ => 0))), (q_47, .inl (cy 1, 8, .inl (fun _ => 0))), (q_48, .inl (cy 1, 6, .inl (fun _ => 0))), (q_45, .inl (cy 1, 8, .inl (fun _ => (-1)))), (q_49, .inr (8, [.ref q_28, .int 0, .ref q_52, .ref q_53, .ref q_54, .ref q_55, .ref q_56, .ref q_57, .ref q_58, .ref q_59, .ref q_60, .ref q_61, .int 0])), (q_52, .inl (cy 1, 36, .inl (fun _ => 0))), (q_53, .inl (cy 1, 6, .inl (fun _ => 0))), (q_54, .inl (cy 1, 6, .inl (fun _ => 0))), (q_55, .inl (cy 1, 6, .inl (fun _ => 0))), (q_56, .inl (cy 1, 6, .inl (fun _ => 0))), (q_57, .inl (cy 1, 8, .inl (fun _ => 0))), (q_59, .inl (cy 1, 8, .inl (fun _ => 0))), (q_60, .inl (cy 1, 8, .inl (fun _ => 0))), (q_61, .inl (cy 1, 6, .inl (fun _ => 0))), (q_58, .inl (cy 1, 8, .inl (fun _ => (-1)))), (q_62, .inr (1, [.ref q_65, .int 0, .int 0])), (q_65, .inl (cy 4, 9, .inr (.inr (.inr (.inr g_77))))), (q_66, .inr (8, [.ref q_28, .int 0, .ref q_67, .ref q_68, .ref q_69, .ref q_70, .ref q_71, .ref q_72, .ref q_73, .ref q_74, .ref q_75, .ref q_76, .int 0])), (q_67, .inl (cy 1, 36, .inl (fun _ => 0))), (q_68, .inl (cy 1, 6, .inl (fun _ => 0))), (q_69, .inl (cy 1, 6, .inl (fun _ => 0))), (q_70, .inl (cy 1, 6, .inl (fun _ => 0))), (q_71, .inl (cy 1, 6, .inl (fun _ => 0))), (q_72, .inl (cy 1, 8, .inl (fun _ => 0))), (q_74, .inl (cy 1, 8, .inl (fun _ => 0))), (q_75, .inl (cy 1, 8, .inl (fun _ => 0))), (q_76, .inl (cy 1, 6, .inl (fun _ => 0))), (q_73, .inl (cy 1, 8, .inl (fun _ => (-1)))), (q_78, .inl (cy 5, 2, .inr (.inr (.inr (.inr (fun _ => none)))))), (q_79, .inr (2, [.ref q_82, .null, .int 0])), (q_82, .inr (8, [.ref q_28, .int 0, .ref q_83, .ref q_84, .ref q_85, .ref q_86, .ref q_87, .ref q_88, .ref q_89, .ref q_90, .ref q_91, .ref q_92, .int 0])), (q_83, .inl (cy 1, 36, .inl (fun _ => 0))), (q_84, .inl (cy 1, 6, .inl (fun _ => 0))), (q_85, .inl (cy 1, 6, .inl (fun _ => 0))), (q_86, .inl (cy 1, 6, .inl (fun _ => 0))), (q_87, .inl (cy 1, 6, .inl (fun _ => 0))), (q_88, .inl (cy 1, 8, .inl (fun _ => 0))), (q_90, .inl (cy 1, 8, .inl (fun _ => 0))), (q_91, .inl (cy 1, 8, .inl (fun _ => 0))), (q_92, .inl (cy 1, 6, .inl (fun _ => 0))), (q_89, .inl (cy 1, 8, .inl (fun _ => (-1))))] := hD
  refine W.widen (k := 156) (n := 2573) (Nat.le_of_ble_eq_true rfl) (Nat.le_of_ble_eq_true rfl) ?_
  refine va_astq (r := (RX2, TX2, 3)) hx hb hK hP hD hS 56 5 57 2 rfl rfl rfl rfl (vp_in_nI (n := 0) (N := 2) (by decide) (by decide)) dX9_init_158 (fun H locs hP hD hS => ?_)
  obtain ⟨g_93, eg_93⟩ : ∃ g, g = va_up (fun _ => none) (Int32.toNatClampNeg 0) (some q_79) := ⟨_, rfl⟩
  have hP : va_P D classes [(x, .inr (9, [.ref q_1, .ref q_36, .ref q_49, .ref q_62, .null, .null, .ref q_7, .ref q_13, .ref q_18, .ref q_23, .ref q_24, .int 0, .int (-1), .int (-1), .int (-1)])), (q_1, .inr (7, [.ref q_4, .ref q_5, .int 0, .int 0, .int 0, .int 0, .int 0, .int 0, .long 0, .int 0, .int 0, .int 0])), (q_4, .inl (cy 0, 940, .inl (fun _ => 0))), (q_5, .inl (cy 2, 28, .inr (.inl g_6))), (q_7, .inr (0, [.ref q_10, .ref q_11, .ref q_12, .int 0, .int 0])), (q_10, .inl (cy 1, 40, .inl (fun _ => 0))), (q_11, .inl (cy 1, 40, .inl (fun _ => 0))), (q_12, .inl (cy 1, 40, .inl (fun _ => 0))), (q_13, .inl (cy 1, 4, .inl g_17)), (q_18, .inr (4, [.ref q_21, .ref q_22])), (q_21, .inl (cy 1, 6, .inl (fun _ => 0))), (q_22, .inl (cy 1, 6, .inl (fun _ => (-1)))), (q_23, .inl (cy 1, 8, .inl (fun _ => 0))), (q_24, .inr (6, [.ref q_27, .int 0])), (q_27, .inl (cy 0, 26, .inl (fun _ => 0))), (q_28, .inr (3, [.ref q_31, .ref q_32, .ref q_33, .ref q_34, .ref q_35, .int 0, .int 5, .int 0, .int 0])), (q_31, .inl (cy 2, 32, .inr (.inl (fun _ => 0)))), (q_32, .inl (cy 1, 4, .inl (fun _ => 0))), (q_33, .inl (cy 1, 6, .inl (fun _ => 0))), (q_34, .inl (cy 1, 6, .inl (fun _ => 0))), (q_35, .inl (cy 1, 8, .inl (fun _ => 0))), (q_36, .inr (8, [.ref q_28, .int 0, .ref q_39, .ref q_40, .ref q_41, .ref q_42, .ref q_43, .ref q_44, .ref q_45, .ref q_46, .ref q_47, .ref q_48, .int 0])), (q_39, .inl (cy 1, 36, .inl (fun _ => 0))), (q_40, .inl (cy 1, 6, .inl (fun _ => 0))), (q_41, .inl (cy 1, 6, .inl (fun _ => 0))), (q_42, .inl (cy 1, 6, .inl (fun _ => 0))), (q_43, .inl (cy 1, 6, .inl (fun _ => 0))), (q_44, .inl (cy 1, 8, .inl (fun _ => 0))), (q_46, .inl (cy 1, 8, .inl (fun _ => 0))), (q_47, .inl (cy 1, 8, .inl (fun _ => 0))), (q_48, .inl (cy 1, 6, .inl (fun _ => 0))), (q_45, .inl (cy 1, 8, .inl (fun _ => (-1)))), (q_49, .inr (8, [.ref q_28, .int 0, .ref q_52, .ref q_53, .ref q_54, .ref q_55, .ref q_56, .ref q_57, .ref q_58, .ref q_59, .ref q_60, .ref q_61, .int 0])), (q_52, .inl (cy 1, 36, .inl (fun _ => 0))), (q_53, .inl (cy 1, 6, .inl (fun _ => 0))), (q_54, .inl (cy 1, 6, .inl (fun _ => 0))), (q_55, .inl (cy 1, 6, .inl (fun _ => 0))), (q_56, .inl (cy 1, 6, .inl (fun _ => 0))), (q_57, .inl (cy 1, 8, .inl (fun _ => 0))), (q_59, .inl (cy 1, 8, .inl (fun _ => 0))), (q_60, .inl (cy 1, 8, .inl (fun _ => 0))), (q_61, .inl (cy 1, 6, .inl (fun _ => 0))), (q_58, .inl (cy 1, 8, .inl (fun _ => (-1)))), (q_62, .inr (1, [.ref q_65, .int 0, .int 0])), (q_65, .inl (cy 4, 9, .inr (.inr (.inr (.inr g_77))))), (q_66, .inr (8, [.ref q_28, .int 0, .ref q_67, .ref q_68, .ref q_69, .ref q_70, .ref q_71, .ref q_72, .ref q_73, .ref q_74, .ref q_75, .ref q_76, .int 0])), (q_67, .inl (cy 1, 36, .inl (fun _ => 0))), (q_68, .inl (cy 1, 6, .inl (fun _ => 0))), (q_69, .inl (cy 1, 6, .inl (fun _ => 0))), (q_70, .inl (cy 1, 6, .inl (fun _ => 0))), (q_71, .inl (cy 1, 6, .inl (fun _ => 0))), (q_72, .inl (cy 1, 8, .inl (fun _ => 0))), (q_74, .inl (cy 1, 8, .inl (fun _ => 0))), (q_75, .inl (cy 1, 8, .inl (fun _ => 0))), (q_76, .inl (cy 1, 6, .inl (fun _ => 0))), (q_73, .inl (cy 1, 8, .inl (fun _ => (-1)))), (q_78, .inl (cy 5, 2, .inr (.inr (.inr (.inr g_93))))), (q_79, .inr (2, [.ref q_82, .null, .int 0])), (q_82, .inr (8, [.ref q_28, .int 0, .ref q_83, .ref q_84, .ref q_85, .ref q_86, .ref q_87, .ref q_88, .ref q_89, .ref q_90, .ref q_91, .ref q_92, .int 0])), (q_83, .inl (cy 1, 36, .inl (fun _ => 0))), (q_84, .inl (cy 1, 6, .inl (fun _ => 0))), (q_85, .inl (cy 1, 6, .inl (fun _ => 0))), (q_86, .inl (cy 1, 6, .inl (fun _ => 0))), (q_87, .inl (cy 1, 6, .inl (fun _ => 0))), (q_88, .inl (cy 1, 8, .inl (fun _ => 0))), (q_90, .inl (cy 1, 8, .inl (fun _ => 0))), (q_91, .inl (cy 1, 8, .inl (fun _ => 0))), (q_92, .inl (cy 1, 6, .inl (fun _ => 0))), (q_89, .inl (cy 1, 8, .inl (fun _ => (-1))))] H := by rw [eg_93]; exact hP
  have hD : va_D A [(x, .inr (9, [.ref q_1, .ref q_36, .ref q_49, .ref q_62, .null, .null, .ref q_7, .ref q_13, .ref q_18, .ref q_23, .ref q_24, .int 0, .int (-1), .int (-1), .int (-1)])), (q_1, .inr (7, [.ref q_4, .ref q_5, .int 0, .int 0, .int 0, .int 0, .int 0, .int 0, .long 0, .int 0, .int 0, .int 0])), (q_4, .inl (cy 0, 940, .inl (fun _ => 0))), (q_5, .inl (cy 2, 28, .inr (.inl g_6))), (q_7, .inr (0, [.ref q_10, .ref q_11, .ref q_12, .int 0, .int 0])), (q_10, .inl (cy 1, 40, .inl (fun _ => 0))), (q_11, .inl (cy 1, 40, .inl (fun _ => 0))), (q_12, .inl (cy 1, 40, .inl (fun _ => 0))), (q_13, .inl (cy 1, 4, .inl g_17)), (q_18, .inr (4, [.ref q_21, .ref q_22])), (q_21, .inl (cy 1, 6, .inl (fun _ => 0))), (q_22, .inl (cy 1, 6, .inl (fun _ => (-1)))), (q_23, .inl (cy 1, 8, .inl (fun _ => 0))), (q_24, .inr (6, [.ref q_27, .int 0])), (q_27, .inl (cy 0, 26, .inl (fun _ => 0))), (q_28, .inr (3, [.ref q_31, .ref q_32, .ref q_33, .ref q_34, .ref q_35, .int 0, .int 5, .int 0, .int 0])), (q_31, .inl (cy 2, 32, .inr (.inl (fun _ => 0)))), (q_32, .inl (cy 1, 4, .inl (fun _ => 0))), (q_33, .inl (cy 1, 6, .inl (fun _ => 0))), (q_34, .inl (cy 1, 6, .inl (fun _ => 0))), (q_35, .inl (cy 1, 8, .inl (fun _ => 0))), (q_36, .inr (8, [.ref q_28, .int 0, .ref q_39, .ref q_40, .ref q_41, .ref q_42, .ref q_43, .ref q_44, .ref q_45, .ref q_46, .ref q_47, .ref q_48, .int 0])), (q_39, .inl (cy 1, 36, .inl (fun _ => 0))), (q_40, .inl (cy 1, 6, .inl (fun _ => 0))), (q_41, .inl (cy 1, 6, .inl (fun _ => 0))), (q_42, .inl (cy 1, 6, .inl (fun _ => 0))), (q_43, .inl (cy 1, 6, .inl (fun _ => 0))), (q_44, .inl (cy 1, 8, .inl (fun _ => 0))), (q_46, .inl (cy 1, 8, .inl (fun _ => 0))), (q_47, .inl (cy 1, 8, .inl (fun _ => 0))), (q_48, .inl (cy 1, 6, .inl (fun _ => 0))), (q_45, .inl (cy 1, 8, .inl (fun _ => (-1)))), (q_49, .inr (8, [.ref q_28, .int 0, .ref q_52, .ref q_53, .ref q_54, .ref q_55, .ref q_56, .ref q_57, .ref q_58, .ref q_59, .ref q_60, .ref q_61, .int 0])), (q_52, .inl (cy 1, 36, .inl (fun _ => 0))), (q_53, .inl (cy 1, 6, .inl (fun _ => 0))), (q_54, .inl (cy 1, 6, .inl (fun _ => 0))), (q_55, .inl (cy 1, 6, .inl (fun _ => 0))), (q_56, .inl (cy 1, 6, .inl (fun _ => 0))), (q_57, .inl (cy 1, 8, .inl (fun _ => 0))), (q_59, .inl (cy 1, 8, .inl (fun _ => 0))), (q_60, .inl (cy 1, 8, .inl (fun _ => 0))), (q_61, .inl (cy 1, 6, .inl (fun _ => 0))), (q_58, .inl (cy 1, 8, .inl (fun _ => (-1)))), (q_62, .inr (1, [.ref q_65, .int 0, .int 0])), (q_65, .inl (cy 4, 9, .inr (.inr (.inr (.inr g_77))))), (q_66, .inr (8, [.ref q_28, .int 0, .ref q_67, .ref q_68, .ref q_69, .ref q_70, .ref q_71, .ref q_72, .ref q_73, .ref q_74, .ref q_75, .ref q_76, .int 0])), (q_67, .inl (cy 1, 36, .inl (fun _ => 0))), (q_68, .inl (cy 1, 6, .inl (fun _ => 0))), (q_69, .inl (cy 1, 6, .inl (fun _ => 0))), (q_70, .inl (cy 1, 6, .inl (fun _ => 0))), (q_71, .inl (cy 1, 6, .inl (fun _ => 0))), (q_72, .inl (cy 1, 8, .inl (fun _ => 0))), (q_74, .inl (cy 1, 8, .inl (fun _ => 0))), (q_75, .inl (cy 1, 8, .inl (fun _ => 0))), (q_76, .inl (cy 1, 6, .inl (fun _ => 0))), (q_73, .inl (cy 1, 8, .inl (fun _ => (-1)))), (q_78, .inl (cy 5, 2, .inr (.inr (.inr (.inr g_93))))), (q_79, .inr (2, [.ref q_82, .null, .int 0])), (q_82, .inr (8, [.ref q_28, .int 0, .ref q_83, .ref q_84, .ref q_85, .ref q_86, .ref q_87, .ref q_88, .ref q_89, .ref q_90, .ref q_91, .ref q_92, .int 0])), (q_83, .inl (cy 1, 36, .inl (fun _ => 0))), (q_84, .inl (cy 1, 6, .inl (fun _ => 0))), (q_85, .inl (cy 1, 6, .inl (fun _ => 0))), (q_86, .inl (cy 1, 6, .inl (fun _ => 0))), (q_87, .inl (cy 1, 6, .inl (fun _ => 0))), (q_88, .inl (cy 1, 8, .inl (fun _ => 0))), (q_90, .inl (cy 1, 8, .inl (fun _ => 0))), (q_91, .inl (cy 1, 8, .inl (fun _ => 0))), (q_92, .inl (cy 1, 6, .inl (fun _ => 0))), (q_89, .inl (cy 1, 8, .inl (fun _ => (-1))))] := by rw [eg_93]; exact hD
  refine lv_dup hx hb dX9_init_159 rfl ?_
  refine lv_iconst (v := 1) hx hb dX9_init_160 (by decide) ?_
  refine va_new (ci := 2) (fs := [.null, .null, .int 0]) (C := RX2) (T := TX2) (N := 3) hx hb hts inX2 tyX2 tyX2_ok hown (hts _ tw_323) (hts _ tw_325) (hts _ tw_14) hK hP hD hS hA rfl (dfX2) (Nat.le_of_ble_eq_true rfl) (Nat.le_of_ble_eq_true rfl) dX9_init_161 (fun q_94 H hP hD hS => ?_)
  have hP : va_P D classes [(x, .inr (9, [.ref q_1, .ref q_36, .ref q_49, .ref q_62, .null, .null, .ref q_7, .ref q_13, .ref q_18, .ref q_23, .ref q_24, .int 0, .int (-1), .int (-1), .int (-1)])), (q_1, .inr (7, [.ref q_4, .ref q_5, .int 0, .int 0, .int 0, .int 0, .int 0, .int 0, .long 0, .int 0, .int 0, .int 0])), (q_4, .inl (cy 0, 940, .inl (fun _ => 0))), (q_5, .inl (cy 2, 28, .inr (.inl g_6))), (q_7, .inr (0, [.ref q_10, .ref q_11, .ref q_12, .int 0, .int 0])), (q_10, .inl (cy 1, 40, .inl (fun _ => 0))), (q_11, .inl (cy 1, 40, .inl (fun _ => 0))), (q_12, .inl (cy 1, 40, .inl (fun _ => 0))), (q_13, .inl (cy 1, 4, .inl g_17)), (q_18, .inr (4, [.ref q_21, .ref q_22])), (q_21, .inl (cy 1, 6, .inl (fun _ => 0))), (q_22, .inl (cy 1, 6, .inl (fun _ => (-1)))), (q_23, .inl (cy 1, 8, .inl (fun _ => 0))), (q_24, .inr (6, [.ref q_27, .int 0])), (q_27, .inl (cy 0, 26, .inl (fun _ => 0))), (q_28, .inr (3, [.ref q_31, .ref q_32, .ref q_33, .ref q_34, .ref q_35, .int 0, .int 5, .int 0, .int 0])), (q_31, .inl (cy 2, 32, .inr (.inl (fun _ => 0)))), (q_32, .inl (cy 1, 4, .inl (fun _ => 0))), (q_33, .inl (cy 1, 6, .inl (fun _ => 0))), (q_34, .inl (cy 1, 6, .inl (fun _ => 0))), (q_35, .inl (cy 1, 8, .inl (fun _ => 0))), (q_36, .inr (8, [.ref q_28, .int 0, .ref q_39, .ref q_40, .ref q_41, .ref q_42, .ref q_43, .ref q_44, .ref q_45, .ref q_46, .ref q_47, .ref q_48, .int 0])), (q_39, .inl (cy 1, 36, .inl (fun _ => 0))), (q_40, .inl (cy 1, 6, .inl (fun _ => 0))), (q_41, .inl (cy 1, 6, .inl (fun _ => 0))), (q_42, .inl (cy 1, 6, .inl (fun _ => 0))), (q_43, .inl (cy 1, 6, .inl (fun _ => 0))), (q_44, .inl (cy 1, 8, .inl (fun _ => 0))), (q_46, .inl (cy 1, 8, .inl (fun _ => 0))), (q_47, .inl (cy 1, 8, .inl (fun _ => 0))), (q_48, .inl (cy 1, 6, .inl (fun _ => 0))), (q_45, .inl (cy 1, 8, .inl (fun _ => (-1)))), (q_49, .inr (8, [.ref q_28, .int 0, .ref q_52, .ref q_53, .ref q_54, .ref q_55, .ref q_56, .ref q_57, .ref q_58, .ref q_59, .ref q_60, .ref q_61, .int 0])), (q_52, .inl (cy 1, 36, .inl (fun _ => 0))), (q_53, .inl (cy 1, 6, .inl (fun _ => 0))), (q_54, .inl (cy 1, 6, .inl (fun _ => 0))), (q_55, .inl (cy 1, 6, .inl (fun _ => 0))), (q_56, .inl (cy 1, 6, .inl (fun _ => 0))), (q_57, .inl (cy 1, 8, .inl (fun _ => 0))), (q_59, .inl (cy 1, 8, .inl (fun _ => 0))), (q_60, .inl (cy 1, 8, .inl (fun _ => 0))), (q_61, .inl (cy 1, 6, .inl (fun _ => 0))), (q_58, .inl (cy 1, 8, .inl (fun _ => (-1)))), (q_62, .inr (1, [.ref q_65, .int 0, .int 0])), (q_65, .inl (cy 4, 9, .inr (.inr (.inr (.inr g_77))))), (q_66, .inr (8, [.ref q_28, .int 0, .ref q_67, .ref q_68, .ref q_69, .ref q_70, .ref q_71, .ref q_72, .ref q_73, .ref q_74, .ref q_75, .ref q_76, .int 0])), (q_67, .inl (cy 1, 36, .inl (fun _ => 0))), (q_68, .inl (cy 1, 6, .inl (fun _ => 0))), (q_69, .inl (cy 1, 6, .inl (fun _ => 0))), (q_70, .inl (cy 1, 6, .inl (fun _ => 0))), (q_71, .inl (cy 1, 6, .inl (fun _ => 0))), (q_72, .inl (cy 1, 8, .inl (fun _ => 0))), (q_74, .inl (cy 1, 8, .inl (fun _ => 0))), (q_75, .inl (cy 1, 8, .inl (fun _ => 0))), (q_76, .inl (cy 1, 6, .inl (fun _ => 0))), (q_73, .inl (cy 1, 8, .inl (fun _ => (-1)))), (q_78, .inl (cy 5, 2, .inr (.inr (.inr (.inr g_93))))), (q_79, .inr (2, [.ref q_82, .null, .int 0])), (q_82, .inr (8, [.ref q_28, .int 0, .ref q_83, .ref q_84, .ref q_85, .ref q_86, .ref q_87, .ref q_88, .ref q_89, .ref q_90, .ref q_91, .ref q_92, .int 0])), (q_83, .inl (cy 1, 36, .inl (fun _ => 0))), (q_84, .inl (cy 1, 6, .inl (fun _ => 0))), (q_85, .inl (cy 1, 6, .inl (fun _ => 0))), (q_86, .inl (cy 1, 6, .inl (fun _ => 0))), (q_87, .inl (cy 1, 6, .inl (fun _ => 0))), (q_88, .inl (cy 1, 8, .inl (fun _ => 0))), (q_90, .inl (cy 1, 8, .inl (fun _ => 0))), (q_91, .inl (cy 1, 8, .inl (fun _ => 0))), (q_92, .inl (cy 1, 6, .inl (fun _ => 0))), (q_89, .inl (cy 1, 8, .inl (fun _ => (-1)))), (q_94, .inr (2, [.null, .null, .int 0]))] H := hP
  have hD : va_D A [(x, .inr (9, [.ref q_1, .ref q_36, .ref q_49, .ref q_62, .null, .null, .ref q_7, .ref q_13, .ref q_18, .ref q_23, .ref q_24, .int 0, .int (-1), .int (-1), .int (-1)])), (q_1, .inr (7, [.ref q_4, .ref q_5, .int 0, .int 0, .int 0, .int 0, .int 0, .int 0, .long 0, .int 0, .int 0, .int 0])), (q_4, .inl (cy 0, 940, .inl (fun _ => 0))), (q_5, .inl (cy 2, 28, .inr (.inl g_6))), (q_7, .inr (0, [.ref q_10, .ref q_11, .ref q_12, .int 0, .int 0])), (q_10, .inl (cy 1, 40, .inl (fun _ => 0))), (q_11, .inl (cy 1, 40, .inl (fun _ => 0))), (q_12, .inl (cy 1, 40, .inl (fun _ => 0))), (q_13, .inl (cy 1, 4, .inl g_17)), (q_18, .inr (4, [.ref q_21, .ref q_22])), (q_21, .inl (cy 1, 6, .inl (fun _ => 0))), (q_22, .inl (cy 1, 6, .inl (fun _ => (-1)))), (q_23, .inl (cy 1, 8, .inl (fun _ => 0))), (q_24, .inr (6, [.ref q_27, .int 0])), (q_27, .inl (cy 0, 26, .inl (fun _ => 0))), (q_28, .inr (3, [.ref q_31, .ref q_32, .ref q_33, .ref q_34, .ref q_35, .int 0, .int 5, .int 0, .int 0])), (q_31, .inl (cy 2, 32, .inr (.inl (fun _ => 0)))), (q_32, .inl (cy 1, 4, .inl (fun _ => 0))), (q_33, .inl (cy 1, 6, .inl (fun _ => 0))), (q_34, .inl (cy 1, 6, .inl (fun _ => 0))), (q_35, .inl (cy 1, 8, .inl (fun _ => 0))), (q_36, .inr (8, [.ref q_28, .int 0, .ref q_39, .ref q_40, .ref q_41, .ref q_42, .ref q_43, .ref q_44, .ref q_45, .ref q_46, .ref q_47, .ref q_48, .int 0])), (q_39, .inl (cy 1, 36, .inl (fun _ => 0))), (q_40, .inl (cy 1, 6, .inl (fun _ => 0))), (q_41, .inl (cy 1, 6, .inl (fun _ => 0))), (q_42, .inl (cy 1, 6, .inl (fun _ => 0))), (q_43, .inl (cy 1, 6, .inl (fun _ => 0))), (q_44, .inl (cy 1, 8, .inl (fun _ => 0))), (q_46, .inl (cy 1, 8, .inl (fun _ => 0))), (q_47, .inl (cy 1, 8, .inl (fun _ => 0))), (q_48, .inl (cy 1, 6, .inl (fun _ => 0))), (q_45, .inl (cy 1, 8, .inl (fun _ => (-1)))), (q_49, .inr (8, [.ref q_28, .int 0, .ref q_52, .ref q_53, .ref q_54, .ref q_55, .ref q_56, .ref q_57, .ref q_58, .ref q_59, .ref q_60, .ref q_61, .int 0])), (q_52, .inl (cy 1, 36, .inl (fun _ => 0))), (q_53, .inl (cy 1, 6, .inl (fun _ => 0))), (q_54, .inl (cy 1, 6, .inl (fun _ => 0))), (q_55, .inl (cy 1, 6, .inl (fun _ => 0))), (q_56, .inl (cy 1, 6, .inl (fun _ => 0))), (q_57, .inl (cy 1, 8, .inl (fun _ => 0))), (q_59, .inl (cy 1, 8, .inl (fun _ => 0))), (q_60, .inl (cy 1, 8, .inl (fun _ => 0))), (q_61, .inl (cy 1, 6, .inl (fun _ => 0))), (q_58, .inl (cy 1, 8, .inl (fun _ => (-1)))), (q_62, .inr (1, [.ref q_65, .int 0, .int 0])), (q_65, .inl (cy 4, 9, .inr (.inr (.inr (.inr g_77))))), (q_66, .inr (8, [.ref q_28, .int 0, .ref q_67, .ref q_68, .ref q_69, .ref q_70, .ref q_71, .ref q_72, .ref q_73, .ref q_74, .ref q_75, .ref q_76, .int 0])), (q_67, .inl (cy 1, 36, .inl (fun _ => 0))), (q_68, .inl (cy 1, 6, .inl (fun _ => 0))), (q_69, .inl (cy 1, 6, .inl (fun _ => 0))), (q_70, .inl (cy 1, 6, .inl (fun _ => 0))), (q_71, .inl (cy 1, 6, .inl (fun _ => 0))), (q_72, .inl (cy 1, 8, .inl (fun _ => 0))), (q_74, .inl (cy 1, 8, .inl (fun _ => 0))), (q_75, .inl (cy 1, 8, .inl (fun _ => 0))), (q_76, .inl (cy 1, 6, .inl (fun _ => 0))), (q_73, .inl (cy 1, 8, .inl (fun _ => (-1)))), (q_78, .inl (cy 5, 2, .inr (.inr (.inr (.inr g_93))))), (q_79, .inr (2, [.ref q_82, .null, .int 0])), (q_82, .inr (8, [.ref q_28, .int 0, .ref q_83, .ref q_84, .ref q_85, .ref q_86, .ref q_87, .ref q_88, .ref q_89, .ref q_90, .ref q_91, .ref q_92, .int 0])), (q_83, .inl (cy 1, 36, .inl (fun _ => 0))), (q_84, .inl (cy 1, 6, .inl (fun _ => 0))), (q_85, .inl (cy 1, 6, .inl (fun _ => 0))), (q_86, .inl (cy 1, 6, .inl (fun _ => 0))), (q_87, .inl (cy 1, 6, .inl (fun _ => 0))), (q_88, .inl (cy 1, 8, .inl (fun _ => 0))), (q_90, .inl (cy 1, 8, .inl (fun _ => 0))), (q_91, .inl (cy 1, 8, .inl (fun _ => 0))), (q_92, .inl (cy 1, 6, .inl (fun _ => 0))), (q_89, .inl (cy 1, 8, .inl (fun _ => (-1)))), (q_94, .inr (2, [.null, .null, .int 0]))] := hD
  refine W.widen (k := 157) (n := 2576) (Nat.le_of_ble_eq_true rfl) (Nat.le_of_ble_eq_true rfl) ?_
  refine lv_dup hx hb dX9_init_164 rfl ?_
  refine lv_aload_n hx hb dX9_init_165 rfl (lv_at hl 0 rfl) ?_
  refine endv (wr := [(x, .inr (9, [.ref q_1, .ref q_36, .ref q_49, .ref q_62, .null, .null, .ref q_7, .ref q_13, .ref q_18, .ref q_23, .ref q_24, .int 0, .int (-1), .int (-1), .int (-1)])), (q_1, .inr (7, [.ref q_4, .ref q_5, .int 0, .int 0, .int 0, .int 0, .int 0, .int 0, .long 0, .int 0, .int 0, .int 0])), (q_4, .inl (cy 0, 940, .inl (fun _ => 0))), (q_5, .inl (cy 2, 28, .inr (.inl g_6))), (q_7, .inr (0, [.ref q_10, .ref q_11, .ref q_12, .int 0, .int 0])), (q_10, .inl (cy 1, 40, .inl (fun _ => 0))), (q_11, .inl (cy 1, 40, .inl (fun _ => 0))), (q_12, .inl (cy 1, 40, .inl (fun _ => 0))), (q_13, .inl (cy 1, 4, .inl g_17)), (q_18, .inr (4, [.ref q_21, .ref q_22])), (q_21, .inl (cy 1, 6, .inl (fun _ => 0))), (q_22, .inl (cy 1, 6, .inl (fun _ => (-1)))), (q_23, .inl (cy 1, 8, .inl (fun _ => 0))), (q_24, .inr (6, [.ref q_27, .int 0])), (q_27, .inl (cy 0, 26, .inl (fun _ => 0))), (q_28, .inr (3, [.ref q_31, .ref q_32, .ref q_33, .ref q_34, .ref q_35, .int 0, .int 5, .int 0, .int 0])), (q_31, .inl (cy 2, 32, .inr (.inl (fun _ => 0)))), (q_32, .inl (cy 1, 4, .inl (fun _ => 0))), (q_33, .inl (cy 1, 6, .inl (fun _ => 0))), (q_34, .inl (cy 1, 6, .inl (fun _ => 0))), (q_35, .inl (cy 1, 8, .inl (fun _ => 0))), (q_36, .inr (8, [.ref q_28, .int 0, .ref q_39, .ref q_40, .ref q_41, .ref q_42, .ref q_43, .ref q_44, .ref q_45, .ref q_46, .ref q_47, .ref q_48, .int 0])), (q_39, .inl (cy 1, 36, .inl (fun _ => 0))), (q_40, .inl (cy 1, 6, .inl (fun _ => 0))), (q_41, .inl (cy 1, 6, .inl (fun _ => 0))), (q_42, .inl (cy 1, 6, .inl (fun _ => 0))), (q_43, .inl (cy 1, 6, .inl (fun _ => 0))), (q_44, .inl (cy 1, 8, .inl (fun _ => 0))), (q_46, .inl (cy 1, 8, .inl (fun _ => 0))), (q_47, .inl (cy 1, 8, .inl (fun _ => 0))), (q_48, .inl (cy 1, 6, .inl (fun _ => 0))), (q_45, .inl (cy 1, 8, .inl (fun _ => (-1)))), (q_49, .inr (8, [.ref q_28, .int 0, .ref q_52, .ref q_53, .ref q_54, .ref q_55, .ref q_56, .ref q_57, .ref q_58, .ref q_59, .ref q_60, .ref q_61, .int 0])), (q_52, .inl (cy 1, 36, .inl (fun _ => 0))), (q_53, .inl (cy 1, 6, .inl (fun _ => 0))), (q_54, .inl (cy 1, 6, .inl (fun _ => 0))), (q_55, .inl (cy 1, 6, .inl (fun _ => 0))), (q_56, .inl (cy 1, 6, .inl (fun _ => 0))), (q_57, .inl (cy 1, 8, .inl (fun _ => 0))), (q_59, .inl (cy 1, 8, .inl (fun _ => 0))), (q_60, .inl (cy 1, 8, .inl (fun _ => 0))), (q_61, .inl (cy 1, 6, .inl (fun _ => 0))), (q_58, .inl (cy 1, 8, .inl (fun _ => (-1)))), (q_62, .inr (1, [.ref q_65, .int 0, .int 0])), (q_65, .inl (cy 4, 9, .inr (.inr (.inr (.inr g_77))))), (q_66, .inr (8, [.ref q_28, .int 0, .ref q_67, .ref q_68, .ref q_69, .ref q_70, .ref q_71, .ref q_72, .ref q_73, .ref q_74, .ref q_75, .ref q_76, .int 0])), (q_67, .inl (cy 1, 36, .inl (fun _ => 0))), (q_68, .inl (cy 1, 6, .inl (fun _ => 0))), (q_69, .inl (cy 1, 6, .inl (fun _ => 0))), (q_70, .inl (cy 1, 6, .inl (fun _ => 0))), (q_71, .inl (cy 1, 6, .inl (fun _ => 0))), (q_72, .inl (cy 1, 8, .inl (fun _ => 0))), (q_74, .inl (cy 1, 8, .inl (fun _ => 0))), (q_75, .inl (cy 1, 8, .inl (fun _ => 0))), (q_76, .inl (cy 1, 6, .inl (fun _ => 0))), (q_73, .inl (cy 1, 8, .inl (fun _ => (-1)))), (q_78, .inl (cy 5, 2, .inr (.inr (.inr (.inr g_93))))), (q_79, .inr (2, [.ref q_82, .null, .int 0])), (q_82, .inr (8, [.ref q_28, .int 0, .ref q_83, .ref q_84, .ref q_85, .ref q_86, .ref q_87, .ref q_88, .ref q_89, .ref q_90, .ref q_91, .ref q_92, .int 0])), (q_83, .inl (cy 1, 36, .inl (fun _ => 0))), (q_84, .inl (cy 1, 6, .inl (fun _ => 0))), (q_85, .inl (cy 1, 6, .inl (fun _ => 0))), (q_86, .inl (cy 1, 6, .inl (fun _ => 0))), (q_87, .inl (cy 1, 6, .inl (fun _ => 0))), (q_88, .inl (cy 1, 8, .inl (fun _ => 0))), (q_90, .inl (cy 1, 8, .inl (fun _ => 0))), (q_91, .inl (cy 1, 8, .inl (fun _ => 0))), (q_92, .inl (cy 1, 6, .inl (fun _ => 0))), (q_89, .inl (cy 1, 8, .inl (fun _ => (-1))))]) (va_runI (As := [.ref q_28]) (rest := [.ref q_94, .int 1, .ref q_78, .ref q_78, .ref x]) ⟨hx, hb, hml, hown, hts⟩ (c_Image_init l D cy z H.size q_94 q_28) (cwI 1 hts (gC tw_328) rfl rfl rfl (hts _ tw_14) (hts _ tw_326) (hts _ tw_327) rfl (by decide +kernel) ⟨Nat.le_of_ble_eq_true rfl, Nat.le_of_ble_eq_true rfl⟩) (preS hP hD hK hSD hS hA [69] rfl (by decide)) rfl rfl hl.1 rfl (lv_room (Nat.le_of_ble_eq_true rfl)) dX9_init_166 ⟨Nat.le_of_ble_eq_true rfl, Nat.le_of_ble_eq_true rfl⟩) hP hD hS hA [69] [0, 1, 2, 3, 4, 5, 6, 7, 8, 9, 10, 11, 12, 13, 14, 15, 16, 17, 18, 19, 20, 21, 22, 23, 24, 25, 26, 27, 28, 29, 30, 31, 32, 33, 34, 35, 36, 37, 38, 39, 40, 41, 42, 43, 44, 45, 46, 47, 48, 49, 50, 51, 52, 53, 54, 55, 56, 57, 58, 59, 60, 61, 62, 63, 64, 65, 66, 67, 68] rfl rfl (by decide) (by decide) (fun u_95 H locs hw_96 hP hD hS => ?_)
  obtain ⟨q_97, q_98, q_99, q_100, q_101, q_102, q_103, q_104, q_105, q_106, q_107⟩ := u_95
  have hP : va_P D classes [(x, .inr (9, [.ref q_1, .ref q_36, .ref q_49, .ref q_62, .null, .null, .ref q_7, .ref q_13, .ref q_18, .ref q_23, .ref q_24, .int 0, .int (-1), .int (-1), .int (-1)])), (q_1, .inr (7, [.ref q_4, .ref q_5, .int 0, .int 0, .int 0, .int 0, .int 0, .int 0, .long 0, .int 0, .int 0, .int 0])), (q_4, .inl (cy 0, 940, .inl (fun _ => 0))), (q_5, .inl (cy 2, 28, .inr (.inl g_6))), (q_7, .inr (0, [.ref q_10, .ref q_11, .ref q_12, .int 0, .int 0])), (q_10, .inl (cy 1, 40, .inl (fun _ => 0))), (q_11, .inl (cy 1, 40, .inl (fun _ => 0))), (q_12, .inl (cy 1, 40, .inl (fun _ => 0))), (q_13, .inl (cy 1, 4, .inl g_17)), (q_18, .inr (4, [.ref q_21, .ref q_22])), (q_21, .inl (cy 1, 6, .inl (fun _ => 0))), (q_22, .inl (cy 1, 6, .inl (fun _ => (-1)))), (q_23, .inl (cy 1, 8, .inl (fun _ => 0))), (q_24, .inr (6, [.ref q_27, .int 0])), (q_27, .inl (cy 0, 26, .inl (fun _ => 0))), (q_28, .inr (3, [.ref q_31, .ref q_32, .ref q_33, .ref q_34, .ref q_35, .int 0, .int 5, .int 0, .int 0])), (q_31, .inl (cy 2, 32, .inr (.inl (fun _ => 0)))), (q_32, .inl (cy 1, 4, .inl (fun _ => 0))), (q_33, .inl (cy 1, 6, .inl (fun _ => 0))), (q_34, .inl (cy 1, 6, .inl (fun _ => 0))), (q_35, .inl (cy 1, 8, .inl (fun _ => 0))), (q_36, .inr (8, [.ref q_28, .int 0, .ref q_39, .ref q_40, .ref q_41, .ref q_42, .ref q_43, .ref q_44, .ref q_45, .ref q_46, .ref q_47, .ref q_48, .int 0])), (q_39, .inl (cy 1, 36, .inl (fun _ => 0))), (q_40, .inl (cy 1, 6, .inl (fun _ => 0))), (q_41, .inl (cy 1, 6, .inl (fun _ => 0))), (q_42, .inl (cy 1, 6, .inl (fun _ => 0))), (q_43, .inl (cy 1, 6, .inl (fun _ => 0))), (q_44, .inl (cy 1, 8, .inl (fun _ => 0))), (q_46, .inl (cy 1, 8, .inl (fun _ => 0))), (q_47, .inl (cy 1, 8, .inl (fun _ => 0))), (q_48, .inl (cy 1, 6, .inl (fun _ => 0))), (q_45, .inl (cy 1, 8, .inl (fun _ => (-1)))), (q_49, .inr (8, [.ref q_28, .int 0, .ref q_52, .ref q_53, .ref q_54, .ref q_55, .ref q_56, .ref q_57, .ref q_58, .ref q_59, .ref q_60, .ref q_61, .int 0])), (q_52, .inl (cy 1, 36, .inl (fun _ => 0))), (q_53, .inl (cy 1, 6, .inl (fun _ => 0))), (q_54, .inl (cy 1, 6, .inl (fun _ => 0))), (q_55, .inl (cy 1, 6, .inl (fun _ => 0))), (q_56, .inl (cy 1, 6, .inl (fun _ => 0))), (q_57, .inl (cy 1, 8, .inl (fun _ => 0))), (q_59, .inl (cy 1, 8, .inl (fun _ => 0))), (q_60, .inl (cy 1, 8, .inl (fun _ => 0))), (q_61, .inl (cy 1, 6, .inl (fun _ => 0))), (q_58, .inl (cy 1, 8, .inl (fun _ => (-1)))), (q_62, .inr (1, [.ref q_65, .int 0, .int 0])), (q_65, .inl (cy 4, 9, .inr (.inr (.inr (.inr g_77))))), (q_66, .inr (8, [.ref q_28, .int 0, .ref q_67, .ref q_68, .ref q_69, .ref q_70, .ref q_71, .ref q_72, .ref q_73, .ref q_74, .ref q_75, .ref q_76, .int 0])), (q_67, .inl (cy 1, 36, .inl (fun _ => 0))), (q_68, .inl (cy 1, 6, .inl (fun _ => 0))), (q_69, .inl (cy 1, 6, .inl (fun _ => 0))), (q_70, .inl (cy 1, 6, .inl (fun _ => 0))), (q_71, .inl (cy 1, 6, .inl (fun _ => 0))), (q_72, .inl (cy 1, 8, .inl (fun _ => 0))), (q_74, .inl (cy 1, 8, .inl (fun _ => 0))), (q_75, .inl (cy 1, 8, .inl (fun _ => 0))), (q_76, .inl (cy 1, 6, .inl (fun _ => 0))), (q_73, .inl (cy 1, 8, .inl (fun _ => (-1)))), (q_78, .inl (cy 5, 2, .inr (.inr (.inr (.inr g_93))))), (q_79, .inr (2, [.ref q_82, .null, .int 0])), (q_82, .inr (8, [.ref q_28, .int 0, .ref q_83, .ref q_84, .ref q_85, .ref q_86, .ref q_87, .ref q_88, .ref q_89, .ref q_90, .ref q_91, .ref q_92, .int 0])), (q_83, .inl (cy 1, 36, .inl (fun _ => 0))), (q_84, .inl (cy 1, 6, .inl (fun _ => 0))), (q_85, .inl (cy 1, 6, .inl (fun _ => 0))), (q_86, .inl (cy 1, 6, .inl (fun _ => 0))), (q_87, .inl (cy 1, 6, .inl (fun _ => 0))), (q_88, .inl (cy 1, 8, .inl (fun _ => 0))), (q_90, .inl (cy 1, 8, .inl (fun _ => 0))), (q_91, .inl (cy 1, 8, .inl (fun _ => 0))), (q_92, .inl (cy 1, 6, .inl (fun _ => 0))), (q_89, .inl (cy 1, 8, .inl (fun _ => (-1)))), (q_94, .inr (2, [.ref q_97, .null, .int 0])), (q_97, .inr (8, [.ref q_28, .int 0, .ref q_98, .ref q_99, .ref q_100, .ref q_101, .ref q_102, .ref q_103, .ref q_104, .ref q_105, .ref q_106, .ref q_107, .int 0])), (q_98, .inl (cy 1, 36, .inl (fun _ => 0))), (q_99, .inl (cy 1, 6, .inl (fun _ => 0))), (q_100, .inl (cy 1, 6, .inl (fun _ => 0))), (q_101, .inl (cy 1, 6, .inl (fun _ => 0))), (q_102, .inl (cy 1, 6, .inl (fun _ => 0))), (q_103, .inl (cy 1, 8, .inl (fun _ => 0))), (q_105, .inl (cy 1, 8, .inl (fun _ => 0))), (q_106, .inl (cy 1, 8, .inl (fun _ => 0))), (q_107, .inl (cy 1, 6, .inl (fun _ => 0))), (q_104, .inl (cy 1, 8, .inl (fun _ => (-1))))] H := hP
  have hD : va_D A [(x, .inr (9, [.ref q_1, .ref q_36, .ref q_49, .ref q_62, .null, .null, .ref q_7, .ref q_13, .ref q_18, .ref q_23, .ref q_24, .int 0, .int (-1), .int (-1), .int (-1)])), (q_1, .inr (7, [.ref q_4, .ref q_5, .int 0, .int 0, .int 0, .int 0, .int 0, .int 0, .long 0, .int 0, .int 0, .int 0])), (q_4, .inl (cy 0, 940, .inl (fun _ => 0))), (q_5, .inl (cy 2, 28, .inr (.inl g_6))), (q_7, .inr (0, [.ref q_10, .ref q_11, .ref q_12, .int 0, .int 0])), (q_10, .inl (cy 1, 40, .inl (fun _ => 0))), (q_11, .inl (cy 1, 40, .inl (fun _ => 0))), (q_12, .inl (cy 1, 40, .inl (fun _ => 0))), (q_13, .inl (cy 1, 4, .inl g_17)), (q_18, .inr (4, [.ref q_21, .ref q_22])), (q_21, .inl (cy 1, 6, .inl (fun _ => 0))), (q_22, .inl (cy 1, 6, .inl (fun _ => (-1)))), (q_23, .inl (cy 1, 8, .inl (fun _ => 0))), (q_24, .inr (6, [.ref q_27, .int 0])), (q_27, .inl (cy 0, 26, .inl (fun _ => 0))), (q_28, .inr (3, [.ref q_31, .ref q_32, .ref q_33, .ref q_34, .ref q_35, .int 0, .int 5, .int 0, .int 0])), (q_31, .inl (cy 2, 32, .inr (.inl (fun _ => 0)))), (q_32, .inl (cy 1, 4, .inl (fun _ => 0))), (q_33, .inl (cy 1, 6, .inl (fun _ => 0))), (q_34, .inl (cy 1, 6, .inl (fun _ => 0))), (q_35, .inl (cy 1, 8, .inl (fun _ => 0))), (q_36, .inr (8, [.ref q_28, .int 0, .ref q_39, .ref q_40, .ref q_41, .ref q_42, .ref q_43, .ref q_44, .ref q_45, .ref q_46, .ref q_47, .ref q_48, .int 0])), (q_39, .inl (cy 1, 36, .inl (fun _ => 0))), (q_40, .inl (cy 1, 6, .inl (fun _ => 0))), (q_41, .inl (cy 1, 6, .inl (fun _ => 0))), (q_42, .inl (cy 1, 6, .inl (fun _ => 0))), (q_43, .inl (cy 1, 6, .inl (fun _ => 0))), (q_44, .inl (cy 1, 8, .inl (fun _ => 0))), (q_46, .inl (cy 1, 8, .inl (fun _ => 0))), (q_47, .inl (cy 1, 8, .inl (fun _ => 0))), (q_48, .inl (cy 1, 6, .inl (fun _ => 0))), (q_45, .inl (cy 1, 8, .inl (fun _ => (-1)))), (q_49, .inr (8, [.ref q_28, .int 0, .ref q_52, .ref q_53, .ref q_54, .ref q_55, .ref q_56, .ref q_57, .ref q_58, .ref q_59, .ref q_60, .ref q_61, .int 0])), (q_52, .inl (cy 1, 36, .inl (fun _ => 0))), (q_53, .inl (cy 1, 6, .inl (fun _ => 0))), (q_54, .inl (cy 1, 6, .inl (fun _ => 0))), (q_55, .inl (cy 1, 6, .inl (fun _ => 0))), (q_56, .inl (cy 1, 6, .inl (fun _ => 0))), (q_57, .inl (cy 1, 8, .inl (fun _ => 0))), (q_59, .inl (cy 1, 8, .inl (fun _ => 0))), (q_60, .inl (cy 1, 8, .inl (fun _ => 0))), (q_61, .inl (cy 1, 6, .inl (fun _ => 0))), (q_58, .inl (cy 1, 8, .inl (fun _ => (-1)))), (q_62, .inr (1, [.ref q_65, .int 0, .int 0])), (q_65, .inl (cy 4, 9, .inr (.inr (.inr (.inr g_77))))), (q_66, .inr (8, [.ref q_28, .int 0, .ref q_67, .ref q_68, .ref q_69, .ref q_70, .ref q_71, .ref q_72, .ref q_73, .ref q_74, .ref q_75, .ref q_76, .int 0])), (q_67, .inl (cy 1, 36, .inl (fun _ => 0))), (q_68, .inl (cy 1, 6, .inl (fun _ => 0))), (q_69, .inl (cy 1, 6, .inl (fun _ => 0))), (q_70, .inl (cy 1, 6, .inl (fun _ => 0))), (q_71, .inl (cy 1, 6, .inl (fun _ => 0))), (q_72, .inl (cy 1, 8, .inl (fun _ => 0))), (q_74, .inl (cy 1, 8, .inl (fun _ => 0))), (q_75, .inl (cy 1, 8, .inl (fun _ => 0))), (q_76, .inl (cy 1, 6, .inl (fun _ => 0))), (q_73, .inl (cy 1, 8, .inl (fun _ => (-1)))), (q_78, .inl (cy 5, 2, .inr (.inr (.inr (.inr g_93))))), (q_79, .inr (2, [.ref q_82, .null, .int 0])), (q_82, .inr (8, [.ref q_28, .int 0, .ref q_83, .ref q_84, .ref q_85, .ref q_86, .ref q_87, .ref q_88, .ref q_89, .ref q_90, .ref q_91, .ref q_92, .int 0])), (q_83, .inl (cy 1, 36, .inl (fun _ => 0))), (q_84, .inl (cy 1, 6, .inl (fun _ => 0))), (q_85, .inl (cy 1, 6, .inl (fun _ => 0))), (q_86, .inl (cy 1, 6, .inl (fun _ => 0))), (q_87, .inl (cy 1, 6, .inl (fun _ => 0))), (q_88, .inl (cy 1, 8, .inl (fun _ => 0))), (q_90, .inl (cy 1, 8, .inl (fun _ => 0))), (q_91, .inl (cy 1, 8, .inl (fun _ => 0))), (q_92, .inl (cy 1, 6, .inl (fun _ => 0))), (q_89, .inl (cy 1, 8, .inl (fun _ => (-1)))), (q_94, .inr (2, [.ref q_97, .null, .int 0])), (q_97, .inr (8, [.ref q_28, .int 0, .ref q_98, .ref q_99, .ref q_100, .ref q_101, .ref q_102, .ref q_103, .ref q_104, .ref q_105, .ref q_106, .ref q_107, .int 0])), (q_98, .inl (cy 1, 36, .inl (fun _ => 0))), (q_99, .inl (cy 1, 6, .inl (fun _ => 0))), (q_100, .inl (cy 1, 6, .inl (fun _ => 0))), (q_101, .inl (cy 1, 6, .inl (fun _ => 0))), (q_102, .inl (cy 1, 6, .inl (fun _ => 0))), (q_103, .inl (cy 1, 8, .inl (fun _ => 0))), (q_105, .inl (cy 1, 8, .inl (fun _ => 0))), (q_106, .inl (cy 1, 8, .inl (fun _ => 0))), (q_107, .inl (cy 1, 6, .inl (fun _ => 0))), (q_104, .inl (cy 1, 8, .inl (fun _ => (-1))))] := hD
  refine W.widen (k := 168) (n := 2687) (Nat.le_of_ble_eq_true rfl) (Nat.le_of_ble_eq_true rfl) ?_
  refine va_astq (r := (RX2, TX2, 3)) hx hb hK hP hD hS 56 5 69 2 rfl rfl rfl rfl (vp_in_nI (n := 1) (N := 2) (by decide) (by decide)) dX9_init_169 (fun H locs hP hD hS => ?_)
  obtain ⟨g_108, eg_108⟩ : ∃ g, g = va_up g_93 (Int32.toNatClampNeg 1) (some q_94) := ⟨_, rfl⟩
  have hP : va_P D classes [(x, .inr (9, [.ref q_1, .ref q_36, .ref q_49, .ref q_62, .null, .null, .ref q_7, .ref q_13, .ref q_18, .ref q_23, .ref q_24, .int 0, .int (-1), .int (-1), .int (-1)])), (q_1, .inr (7, [.ref q_4, .ref q_5, .int 0, .int 0, .int 0, .int 0, .int 0, .int 0, .long 0, .int 0, .int 0, .int 0])), (q_4, .inl (cy 0, 940, .inl (fun _ => 0))), (q_5, .inl (cy 2, 28, .inr (.inl g_6))), (q_7, .inr (0, [.ref q_10, .ref q_11, .ref q_12, .int 0, .int 0])), (q_10, .inl (cy 1, 40, .inl (fun _ => 0))), (q_11, .inl (cy 1, 40, .inl (fun _ => 0))), (q_12, .inl (cy 1, 40, .inl (fun _ => 0))), (q_13, .inl (cy 1, 4, .inl g_17)), (q_18, .inr (4, [.ref q_21, .ref q_22])), (q_21, .inl (cy 1, 6, .inl (fun _ => 0))), (q_22, .inl (cy 1, 6, .inl (fun _ => (-1)))), (q_23, .inl (cy 1, 8, .inl (fun _ => 0))), (q_24, .inr (6, [.ref q_27, .int 0])), (q_27, .inl (cy 0, 26, .inl (fun _ => 0))), (q_28, .inr (3, [.ref q_31, .ref q_32, .ref q_33, .ref q_34, .ref q_35, .int 0, .int 5, .int 0, .int 0])), (q_31, .inl (cy 2, 32, .inr (.inl (fun _ => 0)))), (q_32, .inl (cy 1, 4, .inl (fun _ => 0))), (q_33, .inl (cy 1, 6, .inl (fun _ => 0))), (q_34, .inl (cy 1, 6, .inl (fun _ => 0))), (q_35, .inl (cy 1, 8, .inl (fun _ => 0))), (q_36, .inr (8, [.ref q_28, .int 0, .ref q_39, .ref q_40, .ref q_41, .ref q_42, .ref q_43, .ref q_44, .ref q_45, .ref q_46, .ref q_47, .ref q_48, .int 0])), (q_39, .inl (cy 1, 36, .inl (fun _ => 0))), (q_40, .inl (cy 1, 6, .inl (fun _ => 0))), (q_41, .inl (cy 1, 6, .inl (fun _ => 0))), (q_42, .inl (cy 1, 6, .inl (fun _ => 0))), (q_43, .inl (cy 1, 6, .inl (fun _ => 0))), (q_44, .inl (cy 1, 8, .inl (fun _ => 0))), (q_46, .inl (cy 1, 8, .inl (fun _ => 0))), (q_47, .inl (cy 1, 8, .inl (fun _ => 0))), (q_48, .inl (cy 1, 6, .inl (fun _ => 0))), (q_45, .inl (cy 1, 8, .inl (fun _ => (-1)))), (q_49, .inr (8, [.ref q_28, .int 0, .ref q_52, .ref q_53, .ref q_54, .ref q_55, .ref q_56, .ref q_57, .ref q_58, .ref q_59, .ref q_60, .ref q_61, .int 0])), (q_52, .inl (cy 1, 36, .inl (fun _ => 0))), (q_53, .inl (cy 1, 6, .inl (fun _ => 0))), (q_54, .inl (cy 1, 6, .inl (fun _ => 0))), (q_55, .inl (cy 1, 6, .inl (fun _ => 0))), (q_56, .inl (cy 1, 6, .inl (fun _ => 0))), (q_57, .inl (cy 1, 8, .inl (fun _ => 0))), (q_59, .inl (cy 1, 8, .inl (fun _ => 0))), (q_60, .inl (cy 1, 8, .inl (fun _ => 0))), (q_61, .inl (cy 1, 6, .inl (fun _ => 0))), (q_58, .inl (cy 1, 8, .inl (fun _ => (-1)))), (q_62, .inr (1, [.ref q_65, .int 0, .int 0])), (q_65, .inl (cy 4, 9, .inr (.inr (.inr (.inr g_77))))), (q_66, .inr (8, [.ref q_28, .int 0, .ref q_67, .ref q_68, .ref q_69, .ref q_70, .ref q_71, .ref q_72, .ref q_73, .ref q_74, .ref q_75, .ref q_76, .int 0])), (q_67, .inl (cy 1, 36, .inl (fun _ => 0))), (q_68, .inl (cy 1, 6, .inl (fun _ => 0))), (q_69, .inl (cy 1, 6, .inl (fun _ => 0))), (q_70, .inl (cy 1, 6, .inl (fun _ => 0))), (q_71, .inl (cy 1, 6, .inl (fun _ => 0))), (q_72, .inl (cy 1, 8, .inl (fun _ => 0))), (q_74, .inl (cy 1, 8, .inl (fun _ => 0))), (q_75, .inl (cy 1, 8, .inl (fun _ => 0))), (q_76, .inl (cy 1, 6, .inl (fun _ => 0))), (q_73, .inl (cy 1, 8, .inl (fun _ => (-1)))), (q_78, .inl (cy 5, 2, .inr (.inr (.inr (.inr g_108))))), (q_79, .inr (2, [.ref q_82, .null, .int 0])), (q_82, .inr (8, [.ref q_28, .int 0, .ref q_83, .ref q_84, .ref q_85, .ref q_86, .ref q_87, .ref q_88, .ref q_89, .ref q_90, .ref q_91, .ref q_92, .int 0])), (q_83, .inl (cy 1, 36, .inl (fun _ => 0))), (q_84, .inl (cy 1, 6, .inl (fun _ => 0))), (q_85, .inl (cy 1, 6, .inl (fun _ => 0))), (q_86, .inl (cy 1, 6, .inl (fun _ => 0))), (q_87, .inl (cy 1, 6, .inl (fun _ => 0))), (q_88, .inl (cy 1, 8, .inl (fun _ => 0))), (q_90, .inl (cy 1, 8, .inl (fun _ => 0))), (q_91, .inl (cy 1, 8, .inl (fun _ => 0))), (q_92, .inl (cy 1, 6, .inl (fun _ => 0))), (q_89, .inl (cy 1, 8, .inl (fun _ => (-1)))), (q_94, .inr (2, [.ref q_97, .null, .int 0])), (q_97, .inr (8, [.ref q_28, .int 0, .ref q_98, .ref q_99, .ref q_100, .ref q_101, .ref q_102, .ref q_103, .ref q_104, .ref q_105, .ref q_106, .ref q_107, .int 0])), (q_98, .inl (cy 1, 36, .inl (fun _ => 0))), (q_99, .inl (cy 1, 6, .inl (fun _ => 0))), (q_100, .inl (cy 1, 6, .inl (fun _ => 0))), (q_101, .inl (cy 1, 6, .inl (fun _ => 0))), (q_102, .inl (cy 1, 6, .inl (fun _ => 0))), (q_103, .inl (cy 1, 8, .inl (fun _ => 0))), (q_105, .inl (cy 1, 8, .inl (fun _ => 0))), (q_106, .inl (cy 1, 8, .inl (fun _ => 0))), (q_107, .inl (cy 1, 6, .inl (fun _ => 0))), (q_104, .inl (cy 1, 8, .inl (fun _ => (-1))))] H := by rw [eg_108]; exact hP
  have hD : va_D A [(x, .inr (9, [.ref q_1, .ref q_36, .ref q_49, .ref q_62, .null, .null, .ref q_7, .ref q_13, .ref q_18, .ref q_23, .ref q_24, .int 0, .int (-1), .int (-1), .int (-1)])), (q_1, .inr (7, [.ref q_4, .ref q_5, .int 0, .int 0, .int 0, .int 0, .int 0, .int 0, .long 0, .int 0, .int 0, .int 0])), (q_4, .inl (cy 0, 940, .inl (fun _ => 0))), (q_5, .inl (cy 2, 28, .inr (.inl g_6))), (q_7, .inr (0, [.ref q_10, .ref q_11, .ref q_12, .int 0, .int 0])), (q_10, .inl (cy 1, 40, .inl (fun _ => 0))), (q_11, .inl (cy 1, 40, .inl (fun _ => 0))), (q_12, .inl (cy 1, 40, .inl (fun _ => 0))), (q_13, .inl (cy 1, 4, .inl g_17)), (q_18, .inr (4, [.ref q_21, .ref q_22])), (q_21, .inl (cy 1, 6, .inl (fun _ => 0))), (q_22, .inl (cy 1, 6, .inl (fun _ => (-1)))), (q_23, .inl (cy 1, 8, .inl (fun _ => 0))), (q_24, .inr (6, [.ref q_27, .int 0])), (q_27, .inl (cy 0, 26, .inl (fun _ => 0))), (q_28, .inr (3, [.ref q_31, .ref q_32, .ref q_33, .ref q_34, .ref q_35, .int 0, .int 5, .int 0, .int 0])), (q_31, .inl (cy 2, 32, .inr (.inl (fun _ => 0)))), (q_32, .inl (cy 1, 4, .inl (fun _ => 0))), (q_33, .inl (cy 1, 6, .inl (fun _ => 0))), (q_34, .inl (cy 1, 6, .inl (fun _ => 0))), (q_35, .inl (cy 1, 8, .inl (fun _ => 0))), (q_36, .inr (8, [.ref q_28, .int 0, .ref q_39, .ref q_40, .ref q_41, .ref q_42, .ref q_43, .ref q_44, .ref q_45, .ref q_46, .ref q_47, .ref q_48, .int 0])), (q_39, .inl (cy 1, 36, .inl (fun _ => 0))), (q_40, .inl (cy 1, 6, .inl (fun _ => 0))), (q_41, .inl (cy 1, 6, .inl (fun _ => 0))), (q_42, .inl (cy 1, 6, .inl (fun _ => 0))), (q_43, .inl (cy 1, 6, .inl (fun _ => 0))), (q_44, .inl (cy 1, 8, .inl (fun _ => 0))), (q_46, .inl (cy 1, 8, .inl (fun _ => 0))), (q_47, .inl (cy 1, 8, .inl (fun _ => 0))), (q_48, .inl (cy 1, 6, .inl (fun _ => 0))), (q_45, .inl (cy 1, 8, .inl (fun _ => (-1)))), (q_49, .inr (8, [.ref q_28, .int 0, .ref q_52, .ref q_53, .ref q_54, .ref q_55, .ref q_56, .ref q_57, .ref q_58, .ref q_59, .ref q_60, .ref q_61, .int 0])), (q_52, .inl (cy 1, 36, .inl (fun _ => 0))), (q_53, .inl (cy 1, 6, .inl (fun _ => 0))), (q_54, .inl (cy 1, 6, .inl (fun _ => 0))), (q_55, .inl (cy 1, 6, .inl (fun _ => 0))), (q_56, .inl (cy 1, 6, .inl (fun _ => 0))), (q_57, .inl (cy 1, 8, .inl (fun _ => 0))), (q_59, .inl (cy 1, 8, .inl (fun _ => 0))), (q_60, .inl (cy 1, 8, .inl (fun _ => 0))), (q_61, .inl (cy 1, 6, .inl (fun _ => 0))), (q_58, .inl (cy 1, 8, .inl (fun _ => (-1)))), (q_62, .inr (1, [.ref q_65, .int 0, .int 0])), (q_65, .inl (cy 4, 9, .inr (.inr (.inr (.inr g_77))))), (q_66, .inr (8, [.ref q_28, .int 0, .ref q_67, .ref q_68, .ref q_69, .ref q_70, .ref q_71, .ref q_72, .ref q_73, .ref q_74, .ref q_75, .ref q_76, .int 0])), (q_67, .inl (cy 1, 36, .inl (fun _ => 0))), (q_68, .inl (cy 1, 6, .inl (fun _ => 0))), (q_69, .inl (cy 1, 6, .inl (fun _ => 0))), (q_70, .inl (cy 1, 6, .inl (fun _ => 0))), (q_71, .inl (cy 1, 6, .inl (fun _ => 0))), (q_72, .inl (cy 1, 8, .inl (fun _ => 0))), (q_74, .inl (cy 1, 8, .inl (fun _ => 0))), (q_75, .inl (cy 1, 8, .inl (fun _ => 0))), (q_76, .inl (cy 1, 6, .inl (fun _ => 0))), (q_73, .inl (cy 1, 8, .inl (fun _ => (-1)))), (q_78, .inl (cy 5, 2, .inr (.inr (.inr (.inr g_108))))), (q_79, .inr (2, [.ref q_82, .null, .int 0])), (q_82, .inr (8, [.ref q_28, .int 0, .ref q_83, .ref q_84, .ref q_85, .ref q_86, .ref q_87, .ref q_88, .ref q_89, .ref q_90, .ref q_91, .ref q_92, .int 0])), (q_83, .inl (cy 1, 36, .inl (fun _ => 0))), (q_84, .inl (cy 1, 6, .inl (fun _ => 0))), (q_85, .inl (cy 1, 6, .inl (fun _ => 0))), (q_86, .inl (cy 1, 6, .inl (fun _ => 0))), (q_87, .inl (cy 1, 6, .inl (fun _ => 0))), (q_88, .inl (cy 1, 8, .inl (fun _ => 0))), (q_90, .inl (cy 1, 8, .inl (fun _ => 0))), (q_91, .inl (cy 1, 8, .inl (fun _ => 0))), (q_92, .inl (cy 1, 6, .inl (fun _ => 0))), (q_89, .inl (cy 1, 8, .inl (fun _ => (-1)))), (q_94, .inr (2, [.ref q_97, .null, .int 0])), (q_97, .inr (8, [.ref q_28, .int 0, .ref q_98, .ref q_99, .ref q_100, .ref q_101, .ref q_102, .ref q_103, .ref q_104, .ref q_105, .ref q_106, .ref q_107, .int 0])), (q_98, .inl (cy 1, 36, .inl (fun _ => 0))), (q_99, .inl (cy 1, 6, .inl (fun _ => 0))), (q_100, .inl (cy 1, 6, .inl (fun _ => 0))), (q_101, .inl (cy 1, 6, .inl (fun _ => 0))), (q_102, .inl (cy 1, 6, .inl (fun _ => 0))), (q_103, .inl (cy 1, 8, .inl (fun _ => 0))), (q_105, .inl (cy 1, 8, .inl (fun _ => 0))), (q_106, .inl (cy 1, 8, .inl (fun _ => 0))), (q_107, .inl (cy 1, 6, .inl (fun _ => 0))), (q_104, .inl (cy 1, 8, .inl (fun _ => (-1))))] := by rw [eg_108]; exact hD
  refine va_putF (D := D) (ci := 9) (v := .ref q_78) (ty := .array (.object "WonderParcels$Image")) (C := RX9) (T := TX9) (N := 15) hx hb hts inX9 tyX9 tyX9_ok nmX9 hown hK hP hD hS 0 rfl rfl 4 (by decide) (hts _ tw_350) (fun _ h9 => h9) rfl hin rfl (by decide +kernel) rfl rfl (Nat.le_of_ble_eq_true rfl) dX9_init_170 (fun H locs hP hD hS => ?_)
  have hP : va_P D classes [(x, .inr (9, [.ref q_1, .ref q_36, .ref q_49, .ref q_62, .ref q_78, .null, .ref q_7, .ref q_13, .ref q_18, .ref q_23, .ref q_24, .int 0, .int (-1), .int (-1), .int (-1)])), (q_1, .inr (7, [.ref q_4, .ref q_5, .int 0, .int 0, .int 0, .int 0, .int 0, .int 0, .long 0, .int 0, .int 0, .int 0])), (q_4, .inl (cy 0, 940, .inl (fun _ => 0))), (q_5, .inl (cy 2, 28, .inr (.inl g_6))), (q_7, .inr (0, [.ref q_10, .ref q_11, .ref q_12, .int 0, .int 0])), (q_10, .inl (cy 1, 40, .inl (fun _ => 0))), (q_11, .inl (cy 1, 40, .inl (fun _ => 0))), (q_12, .inl (cy 1, 40, .inl (fun _ => 0))), (q_13, .inl (cy 1, 4, .inl g_17)), (q_18, .inr (4, [.ref q_21, .ref q_22])), (q_21, .inl (cy 1, 6, .inl (fun _ => 0))), (q_22, .inl (cy 1, 6, .inl (fun _ => (-1)))), (q_23, .inl (cy 1, 8, .inl (fun _ => 0))), (q_24, .inr (6, [.ref q_27, .int 0])), (q_27, .inl (cy 0, 26, .inl (fun _ => 0))), (q_28, .inr (3, [.ref q_31, .ref q_32, .ref q_33, .ref q_34, .ref q_35, .int 0, .int 5, .int 0, .int 0])), (q_31, .inl (cy 2, 32, .inr (.inl (fun _ => 0)))), (q_32, .inl (cy 1, 4, .inl (fun _ => 0))), (q_33, .inl (cy 1, 6, .inl (fun _ => 0))), (q_34, .inl (cy 1, 6, .inl (fun _ => 0))), (q_35, .inl (cy 1, 8, .inl (fun _ => 0))), (q_36, .inr (8, [.ref q_28, .int 0, .ref q_39, .ref q_40, .ref q_41, .ref q_42, .ref q_43, .ref q_44, .ref q_45, .ref q_46, .ref q_47, .ref q_48, .int 0])), (q_39, .inl (cy 1, 36, .inl (fun _ => 0))), (q_40, .inl (cy 1, 6, .inl (fun _ => 0))), (q_41, .inl (cy 1, 6, .inl (fun _ => 0))), (q_42, .inl (cy 1, 6, .inl (fun _ => 0))), (q_43, .inl (cy 1, 6, .inl (fun _ => 0))), (q_44, .inl (cy 1, 8, .inl (fun _ => 0))), (q_46, .inl (cy 1, 8, .inl (fun _ => 0))), (q_47, .inl (cy 1, 8, .inl (fun _ => 0))), (q_48, .inl (cy 1, 6, .inl (fun _ => 0))), (q_45, .inl (cy 1, 8, .inl (fun _ => (-1)))), (q_49, .inr (8, [.ref q_28, .int 0, .ref q_52, .ref q_53, .ref q_54, .ref q_55, .ref q_56, .ref q_57, .ref q_58, .ref q_59, .ref q_60, .ref q_61, .int 0])), (q_52, .inl (cy 1, 36, .inl (fun _ => 0))), (q_53, .inl (cy 1, 6, .inl (fun _ => 0))), (q_54, .inl (cy 1, 6, .inl (fun _ => 0))), (q_55, .inl (cy 1, 6, .inl (fun _ => 0))), (q_56, .inl (cy 1, 6, .inl (fun _ => 0))), (q_57, .inl (cy 1, 8, .inl (fun _ => 0))), (q_59, .inl (cy 1, 8, .inl (fun _ => 0))), (q_60, .inl (cy 1, 8, .inl (fun _ => 0))), (q_61, .inl (cy 1, 6, .inl (fun _ => 0))), (q_58, .inl (cy 1, 8, .inl (fun _ => (-1)))), (q_62, .inr (1, [.ref q_65, .int 0, .int 0])), (q_65, .inl (cy 4, 9, .inr (.inr (.inr (.inr g_77))))), (q_66, .inr (8, [.ref q_28, .int 0, .ref q_67, .ref q_68, .ref q_69, .ref q_70, .ref q_71, .ref q_72, .ref q_73, .ref q_74, .ref q_75, .ref q_76, .int 0])), (q_67, .inl (cy 1, 36, .inl (fun _ => 0))), (q_68, .inl (cy 1, 6, .inl (fun _ => 0))), (q_69, .inl (cy 1, 6, .inl (fun _ => 0))), (q_70, .inl (cy 1, 6, .inl (fun _ => 0))), (q_71, .inl (cy 1, 6, .inl (fun _ => 0))), (q_72, .inl (cy 1, 8, .inl (fun _ => 0))), (q_74, .inl (cy 1, 8, .inl (fun _ => 0))), (q_75, .inl (cy 1, 8, .inl (fun _ => 0))), (q_76, .inl (cy 1, 6, .inl (fun _ => 0))), (q_73, .inl (cy 1, 8, .inl (fun _ => (-1)))), (q_78, .inl (cy 5, 2, .inr (.inr (.inr (.inr g_108))))), (q_79, .inr (2, [.ref q_82, .null, .int 0])), (q_82, .inr (8, [.ref q_28, .int 0, .ref q_83, .ref q_84, .ref q_85, .ref q_86, .ref q_87, .ref q_88, .ref q_89, .ref q_90, .ref q_91, .ref q_92, .int 0])), (q_83, .inl (cy 1, 36, .inl (fun _ => 0))), (q_84, .inl (cy 1, 6, .inl (fun _ => 0))), (q_85, .inl (cy 1, 6, .inl (fun _ => 0))), (q_86, .inl (cy 1, 6, .inl (fun _ => 0))), (q_87, .inl (cy 1, 6, .inl (fun _ => 0))), (q_88, .inl (cy 1, 8, .inl (fun _ => 0))), (q_90, .inl (cy 1, 8, .inl (fun _ => 0))), (q_91, .inl (cy 1, 8, .inl (fun _ => 0))), (q_92, .inl (cy 1, 6, .inl (fun _ => 0))), (q_89, .inl (cy 1, 8, .inl (fun _ => (-1)))), (q_94, .inr (2, [.ref q_97, .null, .int 0])), (q_97, .inr (8, [.ref q_28, .int 0, .ref q_98, .ref q_99, .ref q_100, .ref q_101, .ref q_102, .ref q_103, .ref q_104, .ref q_105, .ref q_106, .ref q_107, .int 0])), (q_98, .inl (cy 1, 36, .inl (fun _ => 0))), (q_99, .inl (cy 1, 6, .inl (fun _ => 0))), (q_100, .inl (cy 1, 6, .inl (fun _ => 0))), (q_101, .inl (cy 1, 6, .inl (fun _ => 0))), (q_102, .inl (cy 1, 6, .inl (fun _ => 0))), (q_103, .inl (cy 1, 8, .inl (fun _ => 0))), (q_105, .inl (cy 1, 8, .inl (fun _ => 0))), (q_106, .inl (cy 1, 8, .inl (fun _ => 0))), (q_107, .inl (cy 1, 6, .inl (fun _ => 0))), (q_104, .inl (cy 1, 8, .inl (fun _ => (-1))))] H := hP
  have hD : va_D A [(x, .inr (9, [.ref q_1, .ref q_36, .ref q_49, .ref q_62, .ref q_78, .null, .ref q_7, .ref q_13, .ref q_18, .ref q_23, .ref q_24, .int 0, .int (-1), .int (-1), .int (-1)])), (q_1, .inr (7, [.ref q_4, .ref q_5, .int 0, .int 0, .int 0, .int 0, .int 0, .int 0, .long 0, .int 0, .int 0, .int 0])), (q_4, .inl (cy 0, 940, .inl (fun _ => 0))), (q_5, .inl (cy 2, 28, .inr (.inl g_6))), (q_7, .inr (0, [.ref q_10, .ref q_11, .ref q_12, .int 0, .int 0])), (q_10, .inl (cy 1, 40, .inl (fun _ => 0))), (q_11, .inl (cy 1, 40, .inl (fun _ => 0))), (q_12, .inl (cy 1, 40, .inl (fun _ => 0))), (q_13, .inl (cy 1, 4, .inl g_17)), (q_18, .inr (4, [.ref q_21, .ref q_22])), (q_21, .inl (cy 1, 6, .inl (fun _ => 0))), (q_22, .inl (cy 1, 6, .inl (fun _ => (-1)))), (q_23, .inl (cy 1, 8, .inl (fun _ => 0))), (q_24, .inr (6, [.ref q_27, .int 0])), (q_27, .inl (cy 0, 26, .inl (fun _ => 0))), (q_28, .inr (3, [.ref q_31, .ref q_32, .ref q_33, .ref q_34, .ref q_35, .int 0, .int 5, .int 0, .int 0])), (q_31, .inl (cy 2, 32, .inr (.inl (fun _ => 0)))), (q_32, .inl (cy 1, 4, .inl (fun _ => 0))), (q_33, .inl (cy 1, 6, .inl (fun _ => 0))), (q_34, .inl (cy 1, 6, .inl (fun _ => 0))), (q_35, .inl (cy 1, 8, .inl (fun _ => 0))), (q_36, .inr (8, [.ref q_28, .int 0, .ref q_39, .ref q_40, .ref q_41, .ref q_42, .ref q_43, .ref q_44, .ref q_45, .ref q_46, .ref q_47, .ref q_48, .int 0])), (q_39, .inl (cy 1, 36, .inl (fun _ => 0))), (q_40, .inl (cy 1, 6, .inl (fun _ => 0))), (q_41, .inl (cy 1, 6, .inl (fun _ => 0))), (q_42, .inl (cy 1, 6, .inl (fun _ => 0))), (q_43, .inl (cy 1, 6, .inl (fun _ => 0))), (q_44, .inl (cy 1, 8, .inl (fun _ => 0))), (q_46, .inl (cy 1, 8, .inl (fun _ => 0))), (q_47, .inl (cy 1, 8, .inl (fun _ => 0))), (q_48, .inl (cy 1, 6, .inl (fun _ => 0))), (q_45, .inl (cy 1, 8, .inl (fun _ => (-1)))), (q_49, .inr (8, [.ref q_28, .int 0, .ref q_52, .ref q_53, .ref q_54, .ref q_55, .ref q_56, .ref q_57, .ref q_58, .ref q_59, .ref q_60, .ref q_61, .int 0])), (q_52, .inl (cy 1, 36, .inl (fun _ => 0))), (q_53, .inl (cy 1, 6, .inl (fun _ => 0))), (q_54, .inl (cy 1, 6, .inl (fun _ => 0))), (q_55, .inl (cy 1, 6, .inl (fun _ => 0))), (q_56, .inl (cy 1, 6, .inl (fun _ => 0))), (q_57, .inl (cy 1, 8, .inl (fun _ => 0))), (q_59, .inl (cy 1, 8, .inl (fun _ => 0))), (q_60, .inl (cy 1, 8, .inl (fun _ => 0))), (q_61, .inl (cy 1, 6, .inl (fun _ => 0))), (q_58, .inl (cy 1, 8, .inl (fun _ => (-1)))), (q_62, .inr (1, [.ref q_65, .int 0, .int 0])), (q_65, .inl (cy 4, 9, .inr (.inr (.inr (.inr g_77))))), (q_66, .inr (8, [.ref q_28, .int 0, .ref q_67, .ref q_68, .ref q_69, .ref q_70, .ref q_71, .ref q_72, .ref q_73, .ref q_74, .ref q_75, .ref q_76, .int 0])), (q_67, .inl (cy 1, 36, .inl (fun _ => 0))), (q_68, .inl (cy 1, 6, .inl (fun _ => 0))), (q_69, .inl (cy 1, 6, .inl (fun _ => 0))), (q_70, .inl (cy 1, 6, .inl (fun _ => 0))), (q_71, .inl (cy 1, 6, .inl (fun _ => 0))), (q_72, .inl (cy 1, 8, .inl (fun _ => 0))), (q_74, .inl (cy 1, 8, .inl (fun _ => 0))), (q_75, .inl (cy 1, 8, .inl (fun _ => 0))), (q_76, .inl (cy 1, 6, .inl (fun _ => 0))), (q_73, .inl (cy 1, 8, .inl (fun _ => (-1)))), (q_78, .inl (cy 5, 2, .inr (.inr (.inr (.inr g_108))))), (q_79, .inr (2, [.ref q_82, .null, .int 0])), (q_82, .inr (8, [.ref q_28, .int 0, .ref q_83, .ref q_84, .ref q_85, .ref q_86, .ref q_87, .ref q_88, .ref q_89, .ref q_90, .ref q_91, .ref q_92, .int 0])), (q_83, .inl (cy 1, 36, .inl (fun _ => 0))), (q_84, .inl (cy 1, 6, .inl (fun _ => 0))), (q_85, .inl (cy 1, 6, .inl (fun _ => 0))), (q_86, .inl (cy 1, 6, .inl (fun _ => 0))), (q_87, .inl (cy 1, 6, .inl (fun _ => 0))), (q_88, .inl (cy 1, 8, .inl (fun _ => 0))), (q_90, .inl (cy 1, 8, .inl (fun _ => 0))), (q_91, .inl (cy 1, 8, .inl (fun _ => 0))), (q_92, .inl (cy 1, 6, .inl (fun _ => 0))), (q_89, .inl (cy 1, 8, .inl (fun _ => (-1)))), (q_94, .inr (2, [.ref q_97, .null, .int 0])), (q_97, .inr (8, [.ref q_28, .int 0, .ref q_98, .ref q_99, .ref q_100, .ref q_101, .ref q_102, .ref q_103, .ref q_104, .ref q_105, .ref q_106, .ref q_107, .int 0])), (q_98, .inl (cy 1, 36, .inl (fun _ => 0))), (q_99, .inl (cy 1, 6, .inl (fun _ => 0))), (q_100, .inl (cy 1, 6, .inl (fun _ => 0))), (q_101, .inl (cy 1, 6, .inl (fun _ => 0))), (q_102, .inl (cy 1, 6, .inl (fun _ => 0))), (q_103, .inl (cy 1, 8, .inl (fun _ => 0))), (q_105, .inl (cy 1, 8, .inl (fun _ => 0))), (q_106, .inl (cy 1, 8, .inl (fun _ => 0))), (q_107, .inl (cy 1, 6, .inl (fun _ => 0))), (q_104, .inl (cy 1, 8, .inl (fun _ => (-1))))] := hD
  refine lv_aload_n hx hb dX9_init_173 rfl (lv_at hl 1 rfl) ?_
  refine va_get (D := D) (ci := 9) (v := .ref q_23) (C := RX9) (T := TX9) (N := 15) hx hb hts inX9 hown hK hP 0 rfl rfl 9 (by decide) (hts _ tw_355) (fun _ h9 => h9) rfl dX9_init_174 ?_
  refine lv_iconst (v := (-1)) hx hb dX9_init_177 (by decide) ?_
  refine endv (wr := [(x, .inr (9, [.ref q_1, .ref q_36, .ref q_49, .ref q_62, .ref q_78, .null, .ref q_7, .ref q_13, .ref q_18, .ref q_23, .ref q_24, .int 0, .int (-1), .int (-1), .int (-1)])), (q_1, .inr (7, [.ref q_4, .ref q_5, .int 0, .int 0, .int 0, .int 0, .int 0, .int 0, .long 0, .int 0, .int 0, .int 0])), (q_4, .inl (cy 0, 940, .inl (fun _ => 0))), (q_5, .inl (cy 2, 28, .inr (.inl g_6))), (q_7, .inr (0, [.ref q_10, .ref q_11, .ref q_12, .int 0, .int 0])), (q_10, .inl (cy 1, 40, .inl (fun _ => 0))), (q_11, .inl (cy 1, 40, .inl (fun _ => 0))), (q_12, .inl (cy 1, 40, .inl (fun _ => 0))), (q_13, .inl (cy 1, 4, .inl g_17)), (q_18, .inr (4, [.ref q_21, .ref q_22])), (q_21, .inl (cy 1, 6, .inl (fun _ => 0))), (q_22, .inl (cy 1, 6, .inl (fun _ => (-1)))), (q_24, .inr (6, [.ref q_27, .int 0])), (q_27, .inl (cy 0, 26, .inl (fun _ => 0))), (q_28, .inr (3, [.ref q_31, .ref q_32, .ref q_33, .ref q_34, .ref q_35, .int 0, .int 5, .int 0, .int 0])), (q_31, .inl (cy 2, 32, .inr (.inl (fun _ => 0)))), (q_32, .inl (cy 1, 4, .inl (fun _ => 0))), (q_33, .inl (cy 1, 6, .inl (fun _ => 0))), (q_34, .inl (cy 1, 6, .inl (fun _ => 0))), (q_35, .inl (cy 1, 8, .inl (fun _ => 0))), (q_36, .inr (8, [.ref q_28, .int 0, .ref q_39, .ref q_40, .ref q_41, .ref q_42, .ref q_43, .ref q_44, .ref q_45, .ref q_46, .ref q_47, .ref q_48, .int 0])), (q_39, .inl (cy 1, 36, .inl (fun _ => 0))), (q_40, .inl (cy 1, 6, .inl (fun _ => 0))), (q_41, .inl (cy 1, 6, .inl (fun _ => 0))), (q_42, .inl (cy 1, 6, .inl (fun _ => 0))), (q_43, .inl (cy 1, 6, .inl (fun _ => 0))), (q_44, .inl (cy 1, 8, .inl (fun _ => 0))), (q_46, .inl (cy 1, 8, .inl (fun _ => 0))), (q_47, .inl (cy 1, 8, .inl (fun _ => 0))), (q_48, .inl (cy 1, 6, .inl (fun _ => 0))), (q_45, .inl (cy 1, 8, .inl (fun _ => (-1)))), (q_49, .inr (8, [.ref q_28, .int 0, .ref q_52, .ref q_53, .ref q_54, .ref q_55, .ref q_56, .ref q_57, .ref q_58, .ref q_59, .ref q_60, .ref q_61, .int 0])), (q_52, .inl (cy 1, 36, .inl (fun _ => 0))), (q_53, .inl (cy 1, 6, .inl (fun _ => 0))), (q_54, .inl (cy 1, 6, .inl (fun _ => 0))), (q_55, .inl (cy 1, 6, .inl (fun _ => 0))), (q_56, .inl (cy 1, 6, .inl (fun _ => 0))), (q_57, .inl (cy 1, 8, .inl (fun _ => 0))), (q_59, .inl (cy 1, 8, .inl (fun _ => 0))), (q_60, .inl (cy 1, 8, .inl (fun _ => 0))), (q_61, .inl (cy 1, 6, .inl (fun _ => 0))), (q_58, .inl (cy 1, 8, .inl (fun _ => (-1)))), (q_62, .inr (1, [.ref q_65, .int 0, .int 0])), (q_65, .inl (cy 4, 9, .inr (.inr (.inr (.inr g_77))))), (q_66, .inr (8, [.ref q_28, .int 0, .ref q_67, .ref q_68, .ref q_69, .ref q_70, .ref q_71, .ref q_72, .ref q_73, .ref q_74, .ref q_75, .ref q_76, .int 0])), (q_67, .inl (cy 1, 36, .inl (fun _ => 0))), (q_68, .inl (cy 1, 6, .inl (fun _ => 0))), (q_69, .inl (cy 1, 6, .inl (fun _ => 0))), (q_70, .inl (cy 1, 6, .inl (fun _ => 0))), (q_71, .inl (cy 1, 6, .inl (fun _ => 0))), (q_72, .inl (cy 1, 8, .inl (fun _ => 0))), (q_74, .inl (cy 1, 8, .inl (fun _ => 0))), (q_75, .inl (cy 1, 8, .inl (fun _ => 0))), (q_76, .inl (cy 1, 6, .inl (fun _ => 0))), (q_73, .inl (cy 1, 8, .inl (fun _ => (-1)))), (q_78, .inl (cy 5, 2, .inr (.inr (.inr (.inr g_108))))), (q_79, .inr (2, [.ref q_82, .null, .int 0])), (q_82, .inr (8, [.ref q_28, .int 0, .ref q_83, .ref q_84, .ref q_85, .ref q_86, .ref q_87, .ref q_88, .ref q_89, .ref q_90, .ref q_91, .ref q_92, .int 0])), (q_83, .inl (cy 1, 36, .inl (fun _ => 0))), (q_84, .inl (cy 1, 6, .inl (fun _ => 0))), (q_85, .inl (cy 1, 6, .inl (fun _ => 0))), (q_86, .inl (cy 1, 6, .inl (fun _ => 0))), (q_87, .inl (cy 1, 6, .inl (fun _ => 0))), (q_88, .inl (cy 1, 8, .inl (fun _ => 0))), (q_90, .inl (cy 1, 8, .inl (fun _ => 0))), (q_91, .inl (cy 1, 8, .inl (fun _ => 0))), (q_92, .inl (cy 1, 6, .inl (fun _ => 0))), (q_89, .inl (cy 1, 8, .inl (fun _ => (-1)))), (q_94, .inr (2, [.ref q_97, .null, .int 0])), (q_97, .inr (8, [.ref q_28, .int 0, .ref q_98, .ref q_99, .ref q_100, .ref q_101, .ref q_102, .ref q_103, .ref q_104, .ref q_105, .ref q_106, .ref q_107, .int 0])), (q_98, .inl (cy 1, 36, .inl (fun _ => 0))), (q_99, .inl (cy 1, 6, .inl (fun _ => 0))), (q_100, .inl (cy 1, 6, .inl (fun _ => 0))), (q_101, .inl (cy 1, 6, .inl (fun _ => 0))), (q_102, .inl (cy 1, 6, .inl (fun _ => 0))), (q_103, .inl (cy 1, 8, .inl (fun _ => 0))), (q_105, .inl (cy 1, 8, .inl (fun _ => 0))), (q_106, .inl (cy 1, 8, .inl (fun _ => 0))), (q_107, .inl (cy 1, 6, .inl (fun _ => 0))), (q_104, .inl (cy 1, 8, .inl (fun _ => (-1))))]) (va_runS (As := [.ref q_23, .int (-1)]) (rest := []) ⟨hx, hb, hml, hown, hts⟩ (c_fill l D cy z H.size q_23 8 (fun _ => 0) (-1) (by decide)) (va_cwS 2 hts (gS tw_345 tw_167 tw_9 tw_168) rfl rfl rfl (by decide +kernel) ⟨Nat.le_of_ble_eq_true rfl, Nat.le_of_ble_eq_true rfl⟩) (preS hP hD hK hSD hS hA [12] rfl (by decide)) rfl rfl hl.1 rfl (lv_room (Nat.le_of_ble_eq_true rfl)) dX9_init_178 ⟨Nat.le_of_ble_eq_true rfl, Nat.le_of_ble_eq_true rfl⟩) hP hD hS hA [12] [0, 1, 2, 3, 4, 5, 6, 7, 8, 9, 10, 11, 13, 14, 15, 16, 17, 18, 19, 20, 21, 22, 23, 24, 25, 26, 27, 28, 29, 30, 31, 32, 33, 34, 35, 36, 37, 38, 39, 40, 41, 42, 43, 44, 45, 46, 47, 48, 49, 50, 51, 52, 53, 54, 55, 56, 57, 58, 59, 60, 61, 62, 63, 64, 65, 66, 67, 68, 69, 70, 71, 72, 73, 74, 75, 76, 77, 78, 79, 80] rfl rfl (by decide) (by decide) (fun u_109 H locs hw_110 hP hD hS => ?_)
  have hP : va_P D classes [(x, .inr (9, [.ref q_1, .ref q_36, .ref q_49, .ref q_62, .ref q_78, .null, .ref q_7, .ref q_13, .ref q_18, .ref q_23, .ref q_24, .int 0, .int (-1), .int (-1), .int (-1)])), (q_1, .inr (7, [.ref q_4, .ref q_5, .int 0, .int 0, .int 0, .int 0, .int 0, .int 0, .long 0, .int 0, .int 0, .int 0])), (q_4, .inl (cy 0, 940, .inl (fun _ => 0))), (q_5, .inl (cy 2, 28, .inr (.inl g_6))), (q_7, .inr (0, [.ref q_10, .ref q_11, .ref q_12, .int 0, .int 0])), (q_10, .inl (cy 1, 40, .inl (fun _ => 0))), (q_11, .inl (cy 1, 40, .inl (fun _ => 0))), (q_12, .inl (cy 1, 40, .inl (fun _ => 0))), (q_13, .inl (cy 1, 4, .inl g_17)), (q_18, .inr (4, [.ref q_21, .ref q_22])), (q_21, .inl (cy 1, 6, .inl (fun _ => 0))), (q_22, .inl (cy 1, 6, .inl (fun _ => (-1)))), (q_24, .inr (6, [.ref q_27, .int 0])), (q_27, .inl (cy 0, 26, .inl (fun _ => 0))), (q_28, .inr (3, [.ref q_31, .ref q_32, .ref q_33, .ref q_34, .ref q_35, .int 0, .int 5, .int 0, .int 0])), (q_31, .inl (cy 2, 32, .inr (.inl (fun _ => 0)))), (q_32, .inl (cy 1, 4, .inl (fun _ => 0))), (q_33, .inl (cy 1, 6, .inl (fun _ => 0))), (q_34, .inl (cy 1, 6, .inl (fun _ => 0))), (q_35, .inl (cy 1, 8, .inl (fun _ => 0))), (q_36, .inr (8, [.ref q_28, .int 0, .ref q_39, .ref q_40, .ref q_41, .ref q_42, .ref q_43, .ref q_44, .ref q_45, .ref q_46, .ref q_47, .ref q_48, .int 0])), (q_39, .inl (cy 1, 36, .inl (fun _ => 0))), (q_40, .inl (cy 1, 6, .inl (fun _ => 0))), (q_41, .inl (cy 1, 6, .inl (fun _ => 0))), (q_42, .inl (cy 1, 6, .inl (fun _ => 0))), (q_43, .inl (cy 1, 6, .inl (fun _ => 0))), (q_44, .inl (cy 1, 8, .inl (fun _ => 0))), (q_46, .inl (cy 1, 8, .inl (fun _ => 0))), (q_47, .inl (cy 1, 8, .inl (fun _ => 0))), (q_48, .inl (cy 1, 6, .inl (fun _ => 0))), (q_45, .inl (cy 1, 8, .inl (fun _ => (-1)))), (q_49, .inr (8, [.ref q_28, .int 0, .ref q_52, .ref q_53, .ref q_54, .ref q_55, .ref q_56, .ref q_57, .ref q_58, .ref q_59, .ref q_60, .ref q_61, .int 0])), (q_52, .inl (cy 1, 36, .inl (fun _ => 0))), (q_53, .inl (cy 1, 6, .inl (fun _ => 0))), (q_54, .inl (cy 1, 6, .inl (fun _ => 0))), (q_55, .inl (cy 1, 6, .inl (fun _ => 0))), (q_56, .inl (cy 1, 6, .inl (fun _ => 0))), (q_57, .inl (cy 1, 8, .inl (fun _ => 0))), (q_59, .inl (cy 1, 8, .inl (fun _ => 0))), (q_60, .inl (cy 1, 8, .inl (fun _ => 0))), (q_61, .inl (cy 1, 6, .inl (fun _ => 0))), (q_58, .inl (cy 1, 8, .inl (fun _ => (-1)))), (q_62, .inr (1, [.ref q_65, .int 0, .int 0])), (q_65, .inl (cy 4, 9, .inr (.inr (.inr (.inr g_77))))), (q_66, .inr (8, [.ref q_28, .int 0, .ref q_67, .ref q_68, .ref q_69, .ref q_70, .ref q_71, .ref q_72, .ref q_73, .ref q_74, .ref q_75, .ref q_76, .int 0])), (q_67, .inl (cy 1, 36, .inl (fun _ => 0))), (q_68, .inl (cy 1, 6, .inl (fun _ => 0))), (q_69, .inl (cy 1, 6, .inl (fun _ => 0))), (q_70, .inl (cy 1, 6, .inl (fun _ => 0))), (q_71, .inl (cy 1, 6, .inl (fun _ => 0))), (q_72, .inl (cy 1, 8, .inl (fun _ => 0))), (q_74, .inl (cy 1, 8, .inl (fun _ => 0))), (q_75, .inl (cy 1, 8, .inl (fun _ => 0))), (q_76, .inl (cy 1, 6, .inl (fun _ => 0))), (q_73, .inl (cy 1, 8, .inl (fun _ => (-1)))), (q_78, .inl (cy 5, 2, .inr (.inr (.inr (.inr g_108))))), (q_79, .inr (2, [.ref q_82, .null, .int 0])), (q_82, .inr (8, [.ref q_28, .int 0, .ref q_83, .ref q_84, .ref q_85, .ref q_86, .ref q_87, .ref q_88, .ref q_89, .ref q_90, .ref q_91, .ref q_92, .int 0])), (q_83, .inl (cy 1, 36, .inl (fun _ => 0))), (q_84, .inl (cy 1, 6, .inl (fun _ => 0))), (q_85, .inl (cy 1, 6, .inl (fun _ => 0))), (q_86, .inl (cy 1, 6, .inl (fun _ => 0))), (q_87, .inl (cy 1, 6, .inl (fun _ => 0))), (q_88, .inl (cy 1, 8, .inl (fun _ => 0))), (q_90, .inl (cy 1, 8, .inl (fun _ => 0))), (q_91, .inl (cy 1, 8, .inl (fun _ => 0))), (q_92, .inl (cy 1, 6, .inl (fun _ => 0))), (q_89, .inl (cy 1, 8, .inl (fun _ => (-1)))), (q_94, .inr (2, [.ref q_97, .null, .int 0])), (q_97, .inr (8, [.ref q_28, .int 0, .ref q_98, .ref q_99, .ref q_100, .ref q_101, .ref q_102, .ref q_103, .ref q_104, .ref q_105, .ref q_106, .ref q_107, .int 0])), (q_98, .inl (cy 1, 36, .inl (fun _ => 0))), (q_99, .inl (cy 1, 6, .inl (fun _ => 0))), (q_100, .inl (cy 1, 6, .inl (fun _ => 0))), (q_101, .inl (cy 1, 6, .inl (fun _ => 0))), (q_102, .inl (cy 1, 6, .inl (fun _ => 0))), (q_103, .inl (cy 1, 8, .inl (fun _ => 0))), (q_105, .inl (cy 1, 8, .inl (fun _ => 0))), (q_106, .inl (cy 1, 8, .inl (fun _ => 0))), (q_107, .inl (cy 1, 6, .inl (fun _ => 0))), (q_104, .inl (cy 1, 8, .inl (fun _ => (-1)))), (q_23, .inl (cy 1, 8, .inl (fun _ => (-1))))] H := hP
  have hD : va_D A [(x, .inr (9, [.ref q_1, .ref q_36, .ref q_49, .ref q_62, .ref q_78, .null, .ref q_7, .ref q_13, .ref q_18, .ref q_23, .ref q_24, .int 0, .int (-1), .int (-1), .int (-1)])), (q_1, .inr (7, [.ref q_4, .ref q_5, .int 0, .int 0, .int 0, .int 0, .int 0, .int 0, .long 0, .int 0, .int 0, .int 0])), (q_4, .inl (cy 0, 940, .inl (fun _ => 0))), (q_5, .inl (cy 2, 28, .inr (.inl g_6))), (q_7, .inr (0, [.ref q_10, .ref q_11, .ref q_12, .int 0, .int 0])), (q_10, .inl (cy 1, 40, .inl (fun _ => 0))), (q_11, .inl (cy 1, 40, .inl (fun _ => 0))), (q_12, .inl (cy 1, 40, .inl (fun _ => 0))), (q_13, .inl (cy 1, 4, .inl g_17)), (q_18, .inr (4, [.ref q_21, .ref q_22])), (q_21, .inl (cy 1, 6, .inl (fun _ => 0))), (q_22, .inl (cy 1, 6, .inl (fun _ => (-1)))), (q_24, .inr (6, [.ref q_27, .int 0])), (q_27, .inl (cy 0, 26, .inl (fun _ => 0))), (q_28, .inr (3, [.ref q_31, .ref q_32, .ref q_33, .ref q_34, .ref q_35, .int 0, .int 5, .int 0, .int 0])), (q_31, .inl (cy 2, 32, .inr (.inl (fun _ => 0)))), (q_32, .inl (cy 1, 4, .inl (fun _ => 0))), (q_33, .inl (cy 1, 6, .inl (fun _ => 0))), (q_34, .inl (cy 1, 6, .inl (fun _ => 0))), (q_35, .inl (cy 1, 8, .inl (fun _ => 0))), (q_36, .inr (8, [.ref q_28, .int 0, .ref q_39, .ref q_40, .ref q_41, .ref q_42, .ref q_43, .ref q_44, .ref q_45, .ref q_46, .ref q_47, .ref q_48, .int 0])), (q_39, .inl (cy 1, 36, .inl (fun _ => 0))), (q_40, .inl (cy 1, 6, .inl (fun _ => 0))), (q_41, .inl (cy 1, 6, .inl (fun _ => 0))), (q_42, .inl (cy 1, 6, .inl (fun _ => 0))), (q_43, .inl (cy 1, 6, .inl (fun _ => 0))), (q_44, .inl (cy 1, 8, .inl (fun _ => 0))), (q_46, .inl (cy 1, 8, .inl (fun _ => 0))), (q_47, .inl (cy 1, 8, .inl (fun _ => 0))), (q_48, .inl (cy 1, 6, .inl (fun _ => 0))), (q_45, .inl (cy 1, 8, .inl (fun _ => (-1)))), (q_49, .inr (8, [.ref q_28, .int 0, .ref q_52, .ref q_53, .ref q_54, .ref q_55, .ref q_56, .ref q_57, .ref q_58, .ref q_59, .ref q_60, .ref q_61, .int 0])), (q_52, .inl (cy 1, 36, .inl (fun _ => 0))), (q_53, .inl (cy 1, 6, .inl (fun _ => 0))), (q_54, .inl (cy 1, 6, .inl (fun _ => 0))), (q_55, .inl (cy 1, 6, .inl (fun _ => 0))), (q_56, .inl (cy 1, 6, .inl (fun _ => 0))), (q_57, .inl (cy 1, 8, .inl (fun _ => 0))), (q_59, .inl (cy 1, 8, .inl (fun _ => 0))), (q_60, .inl (cy 1, 8, .inl (fun _ => 0))), (q_61, .inl (cy 1, 6, .inl (fun _ => 0))), (q_58, .inl (cy 1, 8, .inl (fun _ => (-1)))), (q_62, .inr (1, [.ref q_65, .int 0, .int 0])), (q_65, .inl (cy 4, 9, .inr (.inr (.inr (.inr g_77))))), (q_66, .inr (8, [.ref q_28, .int 0, .ref q_67, .ref q_68, .ref q_69, .ref q_70, .ref q_71, .ref q_72, .ref q_73, .ref q_74, .ref q_75, .ref q_76, .int 0])), (q_67, .inl (cy 1, 36, .inl (fun _ => 0))), (q_68, .inl (cy 1, 6, .inl (fun _ => 0))), (q_69, .inl (cy 1, 6, .inl (fun _ => 0))), (q_70, .inl (cy 1, 6, .inl (fun _ => 0))), (q_71, .inl (cy 1, 6, .inl (fun _ => 0))), (q_72, .inl (cy 1, 8, .inl (fun _ => 0))), (q_74, .inl (cy 1, 8, .inl (fun _ => 0))), (q_75, .inl (cy 1, 8, .inl (fun _ => 0))), (q_76, .inl (cy 1, 6, .inl (fun _ => 0))), (q_73, .inl (cy 1, 8, .inl (fun _ => (-1)))), (q_78, .inl (cy 5, 2, .inr (.inr (.inr (.inr g_108))))), (q_79, .inr (2, [.ref q_82, .null, .int 0])), (q_82, .inr (8, [.ref q_28, .int 0, .ref q_83, .ref q_84, .ref q_85, .ref q_86, .ref q_87, .ref q_88, .ref q_89, .ref q_90, .ref q_91, .ref q_92, .int 0])), (q_83, .inl (cy 1, 36, .inl (fun _ => 0))), (q_84, .inl (cy 1, 6, .inl (fun _ => 0))), (q_85, .inl (cy 1, 6, .inl (fun _ => 0))), (q_86, .inl (cy 1, 6, .inl (fun _ => 0))), (q_87, .inl (cy 1, 6, .inl (fun _ => 0))), (q_88, .inl (cy 1, 8, .inl (fun _ => 0))), (q_90, .inl (cy 1, 8, .inl (fun _ => 0))), (q_91, .inl (cy 1, 8, .inl (fun _ => 0))), (q_92, .inl (cy 1, 6, .inl (fun _ => 0))), (q_89, .inl (cy 1, 8, .inl (fun _ => (-1)))), (q_94, .inr (2, [.ref q_97, .null, .int 0])), (q_97, .inr (8, [.ref q_28, .int 0, .ref q_98, .ref q_99, .ref q_100, .ref q_101, .ref q_102, .ref q_103, .ref q_104, .ref q_105, .ref q_106, .ref q_107, .int 0])), (q_98, .inl (cy 1, 36, .inl (fun _ => 0))), (q_99, .inl (cy 1, 6, .inl (fun _ => 0))), (q_100, .inl (cy 1, 6, .inl (fun _ => 0))), (q_101, .inl (cy 1, 6, .inl (fun _ => 0))), (q_102, .inl (cy 1, 6, .inl (fun _ => 0))), (q_103, .inl (cy 1, 8, .inl (fun _ => 0))), (q_105, .inl (cy 1, 8, .inl (fun _ => 0))), (q_106, .inl (cy 1, 8, .inl (fun _ => 0))), (q_107, .inl (cy 1, 6, .inl (fun _ => 0))), (q_104, .inl (cy 1, 8, .inl (fun _ => (-1)))), (q_23, .inl (cy 1, 8, .inl (fun _ => (-1))))] := hD
  have hP9 : va_P D classes [(x, .inr (9, [.ref q_1, .ref q_36, .ref q_49, .ref q_62, .ref q_78, .null, .ref q_7, .ref q_13, .ref q_18, .ref q_23, .ref q_24, .int 0, .int (-1), .int (-1), .int (-1)])), (q_1, .inr (7, [.ref q_4, .ref q_5, .int 0, .int 0, .int 0, .int 0, .int 0, .int 0, .long 0, .int 0, .int 0, .int 0])), (q_4, .inl (cy 0, 940, .inl (fun _ => 0))), (q_5, .inl (cy 2, 28, .inr (.inl g_6))), (q_7, .inr (0, [.ref q_10, .ref q_11, .ref q_12, .int 0, .int 0])), (q_10, .inl (cy 1, 40, .inl (fun _ => 0))), (q_11, .inl (cy 1, 40, .inl (fun _ => 0))), (q_12, .inl (cy 1, 40, .inl (fun _ => 0))), (q_13, .inl (cy 1, 4, .inl g_17)), (q_18, .inr (4, [.ref q_21, .ref q_22])), (q_21, .inl (cy 1, 6, .inl (fun _ => 0))), (q_22, .inl (cy 1, 6, .inl (fun _ => (-1)))), (q_24, .inr (6, [.ref q_27, .int 0])), (q_27, .inl (cy 0, 26, .inl (fun _ => 0))), (q_28, .inr (3, [.ref q_31, .ref q_32, .ref q_33, .ref q_34, .ref q_35, .int 0, .int 5, .int 0, .int 0])), (q_31, .inl (cy 2, 32, .inr (.inl (fun _ => 0)))), (q_32, .inl (cy 1, 4, .inl (fun _ => 0))), (q_33, .inl (cy 1, 6, .inl (fun _ => 0))), (q_34, .inl (cy 1, 6, .inl (fun _ => 0))), (q_35, .inl (cy 1, 8, .inl (fun _ => 0))), (q_36, .inr (8, [.ref q_28, .int 0, .ref q_39, .ref q_40, .ref q_41, .ref q_42, .ref q_43, .ref q_44, .ref q_45, .ref q_46, .ref q_47, .ref q_48, .int 0])), (q_39, .inl (cy 1, 36, .inl (fun _ => 0))), (q_40, .inl (cy 1, 6, .inl (fun _ => 0))), (q_41, .inl (cy 1, 6, .inl (fun _ => 0))), (q_42, .inl (cy 1, 6, .inl (fun _ => 0))), (q_43, .inl (cy 1, 6, .inl (fun _ => 0))), (q_44, .inl (cy 1, 8, .inl (fun _ => 0))), (q_46, .inl (cy 1, 8, .inl (fun _ => 0))), (q_47, .inl (cy 1, 8, .inl (fun _ => 0))), (q_48, .inl (cy 1, 6, .inl (fun _ => 0))), (q_45, .inl (cy 1, 8, .inl (fun _ => (-1)))), (q_49, .inr (8, [.ref q_28, .int 0, .ref q_52, .ref q_53, .ref q_54, .ref q_55, .ref q_56, .ref q_57, .ref q_58, .ref q_59, .ref q_60, .ref q_61, .int 0])), (q_52, .inl (cy 1, 36, .inl (fun _ => 0))), (q_53, .inl (cy 1, 6, .inl (fun _ => 0))), (q_54, .inl (cy 1, 6, .inl (fun _ => 0))), (q_55, .inl (cy 1, 6, .inl (fun _ => 0))), (q_56, .inl (cy 1, 6, .inl (fun _ => 0))), (q_57, .inl (cy 1, 8, .inl (fun _ => 0))), (q_59, .inl (cy 1, 8, .inl (fun _ => 0))), (q_60, .inl (cy 1, 8, .inl (fun _ => 0))), (q_61, .inl (cy 1, 6, .inl (fun _ => 0))), (q_58, .inl (cy 1, 8, .inl (fun _ => (-1)))), (q_62, .inr (1, [.ref q_65, .int 0, .int 0])), (q_65, .inl (cy 4, 9, .inr (.inr (.inr (.inr g_77))))), (q_66, .inr (8, [.ref q_28, .int 0, .ref q_67, .ref q_68, .ref q_69, .ref q_70, .ref q_71, .ref q_72, .ref q_73, .ref q_74, .ref q_75, .ref q_76, .int 0])), (q_67, .inl (cy 1, 36, .inl (fun _ => 0))), (q_68, .inl (cy 1, 6, .inl (fun _ => 0))), (q_69, .inl (cy 1, 6, .inl (fun _ => 0))), (q_70, .inl (cy 1, 6, .inl (fun _ => 0))), (q_71, .inl (cy 1, 6, .inl (fun _ => 0))), (q_72, .inl (cy 1, 8, .inl (fun _ => 0))), (q_74, .inl (cy 1, 8, .inl (fun _ => 0))), (q_75, .inl (cy 1, 8, .inl (fun _ => 0))), (q_76, .inl (cy 1, 6, .inl (fun _ => 0))), (q_73, .inl (cy 1, 8, .inl (fun _ => (-1)))), (q_78, .inl (cy 5, 2, .inr (.inr (.inr (.inr g_108))))), (q_79, .inr (2, [.ref q_82, .null, .int 0])), (q_82, .inr (8, [.ref q_28, .int 0, .ref q_83, .ref q_84, .ref q_85, .ref q_86, .ref q_87, .ref q_88, .ref q_89, .ref q_90, .ref q_91, .ref q_92, .int 0])), (q_83, .inl (cy 1, 36, .inl (fun _ => 0))), (q_84, .inl (cy 1, 6, .inl (fun _ => 0))), (q_85, .inl (cy 1, 6, .inl (fun _ => 0))), (q_86, .inl (cy 1, 6, .inl (fun _ => 0))), (q_87, .inl (cy 1, 6, .inl (fun _ => 0))), (q_88, .inl (cy 1, 8, .inl (fun _ => 0))), (q_90, .inl (cy 1, 8, .inl (fun _ => 0))), (q_91, .inl (cy 1, 8, .inl (fun _ => 0))), (q_92, .inl (cy 1, 6, .inl (fun _ => 0))), (q_89, .inl (cy 1, 8, .inl (fun _ => (-1)))), (q_94, .inr (2, [.ref q_97, .null, .int 0])), (q_97, .inr (8, [.ref q_28, .int 0, .ref q_98, .ref q_99, .ref q_100, .ref q_101, .ref q_102, .ref q_103, .ref q_104, .ref q_105, .ref q_106, .ref q_107, .int 0])), (q_98, .inl (cy 1, 36, .inl (fun _ => 0))), (q_99, .inl (cy 1, 6, .inl (fun _ => 0))), (q_100, .inl (cy 1, 6, .inl (fun _ => 0))), (q_101, .inl (cy 1, 6, .inl (fun _ => 0))), (q_102, .inl (cy 1, 6, .inl (fun _ => 0))), (q_103, .inl (cy 1, 8, .inl (fun _ => 0))), (q_105, .inl (cy 1, 8, .inl (fun _ => 0))), (q_106, .inl (cy 1, 8, .inl (fun _ => 0))), (q_107, .inl (cy 1, 6, .inl (fun _ => 0))), (q_104, .inl (cy 1, 8, .inl (fun _ => (-1)))), (q_23, .inl (cy 1, 8, .inl (fun _ => (-1))))] H := subP hP [0, 1, 2, 3, 4, 5, 6, 7, 8, 9, 10, 11, 12, 13, 14, 15, 16, 17, 18, 19, 20, 21, 22, 23, 24, 25, 26, 27, 28, 29, 30, 31, 32, 33, 34, 35, 36, 37, 38, 39, 40, 41, 42, 43, 44, 45, 46, 47, 48, 49, 50, 51, 52, 53, 54, 55, 56, 57, 58, 59, 60, 61, 62, 63, 64, 65, 66, 67, 68, 69, 70, 71, 72, 73, 74, 75, 76, 77, 78, 79, 80] rfl
  have hD9 : va_D A [(x, .inr (9, [.ref q_1, .ref q_36, .ref q_49, .ref q_62, .ref q_78, .null, .ref q_7, .ref q_13, .ref q_18, .ref q_23, .ref q_24, .int 0, .int (-1), .int (-1), .int (-1)])), (q_1, .inr (7, [.ref q_4, .ref q_5, .int 0, .int 0, .int 0, .int 0, .int 0, .int 0, .long 0, .int 0, .int 0, .int 0])), (q_4, .inl (cy 0, 940, .inl (fun _ => 0))), (q_5, .inl (cy 2, 28, .inr (.inl g_6))), (q_7, .inr (0, [.ref q_10, .ref q_11, .ref q_12, .int 0, .int 0])), (q_10, .inl (cy 1, 40, .inl (fun _ => 0))), (q_11, .inl (cy 1, 40, .inl (fun _ => 0))), (q_12, .inl (cy 1, 40, .inl (fun _ => 0))), (q_13, .inl (cy 1, 4, .inl g_17)), (q_18, .inr (4, [.ref q_21, .ref q_22])), (q_21, .inl (cy 1, 6, .inl (fun _ => 0))), (q_22, .inl (cy 1, 6, .inl (fun _ => (-1)))), (q_24, .inr (6, [.ref q_27, .int 0])), (q_27, .inl (cy 0, 26, .inl (fun _ => 0))), (q_28, .inr (3, [.ref q_31, .ref q_32, .ref q_33, .ref q_34, .ref q_35, .int 0, .int 5, .int 0, .int 0])), (q_31, .inl (cy 2, 32, .inr (.inl (fun _ => 0)))), (q_32, .inl (cy 1, 4, .inl (fun _ => 0))), (q_33, .inl (cy 1, 6, .inl (fun _ => 0))), (q_34, .inl (cy 1, 6, .inl (fun _ => 0))), (q_35, .inl (cy 1, 8, .inl (fun _ => 0))), (q_36, .inr (8, [.ref q_28, .int 0, .ref q_39, .ref q_40, .ref q_41, .ref q_42, .ref q_43, .ref q_44, .ref q_45, .ref q_46, .ref q_47, .ref q_48, .int 0])), (q_39, .inl (cy 1, 36, .inl (fun _ => 0))), (q_40, .inl (cy 1, 6, .inl (fun _ => 0))), (q_41, .inl (cy 1, 6, .inl (fun _ => 0))), (q_42, .inl (cy 1, 6, .inl (fun _ => 0))), (q_43, .inl (cy 1, 6, .inl (fun _ => 0))), (q_44, .inl (cy 1, 8, .inl (fun _ => 0))), (q_46, .inl (cy 1, 8, .inl (fun _ => 0))), (q_47, .inl (cy 1, 8, .inl (fun _ => 0))), (q_48, .inl (cy 1, 6, .inl (fun _ => 0))), (q_45, .inl (cy 1, 8, .inl (fun _ => (-1)))), (q_49, .inr (8, [.ref q_28, .int 0, .ref q_52, .ref q_53, .ref q_54, .ref q_55, .ref q_56, .ref q_57, .ref q_58, .ref q_59, .ref q_60, .ref q_61, .int 0])), (q_52, .inl (cy 1, 36, .inl (fun _ => 0))), (q_53, .inl (cy 1, 6, .inl (fun _ => 0))), (q_54, .inl (cy 1, 6, .inl (fun _ => 0))), (q_55, .inl (cy 1, 6, .inl (fun _ => 0))), (q_56, .inl (cy 1, 6, .inl (fun _ => 0))), (q_57, .inl (cy 1, 8, .inl (fun _ => 0))), (q_59, .inl (cy 1, 8, .inl (fun _ => 0))), (q_60, .inl (cy 1, 8, .inl (fun _ => 0))), (q_61, .inl (cy 1, 6, .inl (fun _ => 0))), (q_58, .inl (cy 1, 8, .inl (fun _ => (-1)))), (q_62, .inr (1, [.ref q_65, .int 0, .int 0])), (q_65, .inl (cy 4, 9, .inr (.inr (.inr (.inr g_77))))), (q_66, .inr (8, [.ref q_28, .int 0, .ref q_67, .ref q_68, .ref q_69, .ref q_70, .ref q_71, .ref q_72, .ref q_73, .ref q_74, .ref q_75, .ref q_76, .int 0])), (q_67, .inl (cy 1, 36, .inl (fun _ => 0))), (q_68, .inl (cy 1, 6, .inl (fun _ => 0))), (q_69, .inl (cy 1, 6, .inl (fun _ => 0))), (q_70, .inl (cy 1, 6, .inl (fun _ => 0))), (q_71, .inl (cy 1, 6, .inl (fun _ => 0))), (q_72, .inl (cy 1, 8, .inl (fun _ => 0))), (q_74, .inl (cy 1, 8, .inl (fun _ => 0))), (q_75, .inl (cy 1, 8, .inl (fun _ => 0))), (q_76, .inl (cy 1, 6, .inl (fun _ => 0))), (q_73, .inl (cy 1, 8, .inl (fun _ => (-1)))), (q_78, .inl (cy 5, 2, .inr (.inr (.inr (.inr g_108))))), (q_79, .inr (2, [.ref q_82, .null, .int 0])), (q_82, .inr (8, [.ref q_28, .int 0, .ref q_83, .ref q_84, .ref q_85, .ref q_86, .ref q_87, .ref q_88, .ref q_89, .ref q_90, .ref q_91, .ref q_92, .int 0])), (q_83, .inl (cy 1, 36, .inl (fun _ => 0))), (q_84, .inl (cy 1, 6, .inl (fun _ => 0))), (q_85, .inl (cy 1, 6, .inl (fun _ => 0))), (q_86, .inl (cy 1, 6, .inl (fun _ => 0))), (q_87, .inl (cy 1, 6, .inl (fun _ => 0))), (q_88, .inl (cy 1, 8, .inl (fun _ => 0))), (q_90, .inl (cy 1, 8, .inl (fun _ => 0))), (q_91, .inl (cy 1, 8, .inl (fun _ => 0))), (q_92, .inl (cy 1, 6, .inl (fun _ => 0))), (q_89, .inl (cy 1, 8, .inl (fun _ => (-1)))), (q_94, .inr (2, [.ref q_97, .null, .int 0])), (q_97, .inr (8, [.ref q_28, .int 0, .ref q_98, .ref q_99, .ref q_100, .ref q_101, .ref q_102, .ref q_103, .ref q_104, .ref q_105, .ref q_106, .ref q_107, .int 0])), (q_98, .inl (cy 1, 36, .inl (fun _ => 0))), (q_99, .inl (cy 1, 6, .inl (fun _ => 0))), (q_100, .inl (cy 1, 6, .inl (fun _ => 0))), (q_101, .inl (cy 1, 6, .inl (fun _ => 0))), (q_102, .inl (cy 1, 6, .inl (fun _ => 0))), (q_103, .inl (cy 1, 8, .inl (fun _ => 0))), (q_105, .inl (cy 1, 8, .inl (fun _ => 0))), (q_106, .inl (cy 1, 8, .inl (fun _ => 0))), (q_107, .inl (cy 1, 6, .inl (fun _ => 0))), (q_104, .inl (cy 1, 8, .inl (fun _ => (-1)))), (q_23, .inl (cy 1, 8, .inl (fun _ => (-1))))] := hD.sub [0, 1, 2, 3, 4, 5, 6, 7, 8, 9, 10, 11, 12, 13, 14, 15, 16, 17, 18, 19, 20, 21, 22, 23, 24, 25, 26, 27, 28, 29, 30, 31, 32, 33, 34, 35, 36, 37, 38, 39, 40, 41, 42, 43, 44, 45, 46, 47, 48, 49, 50, 51, 52, 53, 54, 55, 56, 57, 58, 59, 60, 61, 62, 63, 64, 65, 66, 67, 68, 69, 70, 71, 72, 73, 74, 75, 76, 77, 78, 79, 80] (by decide) rfl
  refine W.widen (k := 168) (n := 2687) (Nat.le_of_ble_eq_true rfl) (Nat.le_of_ble_eq_true rfl) ?_
  exact W.vret hx hb hr (fun t ht hW => ⟨⟨((q_1), (q_4), (q_5), (g_6), (q_7), (q_10), (q_11), (q_12), (q_13), (g_17), (q_18), (q_21), (q_22), (q_23), (q_24), (q_27), (q_28), (q_31), (q_32), (q_33), (q_34), (q_35), (q_36), (q_39), (q_40), (q_41), (q_42), (q_43), (q_44), (q_45), (q_46), (q_47), (q_48), (q_49), (q_52), (q_53), (q_54), (q_55), (q_56), (q_57), (q_58), (q_59), (q_60), (q_61), (q_62), (q_65), (q_66), (q_67), (q_68), (q_69), (q_70), (q_71), (q_72), (q_73), (q_74), (q_75), (q_76), (g_77), (q_78), (q_79), (q_82), (q_83), (q_84), (q_85), (q_86), (q_87), (q_88), (q_89), (q_90), (q_91), (q_92), (q_94), (q_97), (q_98), (q_99), (q_100), (q_101), (q_102), (q_103), (q_104), (q_105), (q_106), (q_107), (g_108)), rfl, ⟨hw_64, ⟨by rw [eg_108, eg_93]; rfl, by rw [eg_108, eg_93]; rfl⟩, fun j hj => by rw [eg_17, eg_16, eg_15, eg_14]; rcases (show j = 0 ∨ j = 1 ∨ j = 2 ∨ j = 3 by omega) with h9 | h9 | h9 | h9 <;> rw [h9] <;> rfl⟩, by rw [ht]; exact hP9, va_K.moved hW.alike hK, hD9⟩, hS.F ht⟩) hS.2.2 dX9_init_181
set_option maxHeartbeats 4000000 in
set_option maxRecDepth 100000 in
theorem c_takeFrom (l : Launch) (D : va_G) (cy : Nat → ClassId) (z : Nat → Nat) (sz : Nat) (a : Nat) (b : Nat) (pa : Nat) (pb : Nat) (da : Int32) (db : Int32) (sa : Int32) (sb : Int32) (x1 : Nat) (x2 : Nat) (x3 : Nat) (x4 : Nat) (x5 : Nat) (x6 : Nat) (x7 : Nat) (x8 : Nat) (x9 : Nat) (x10 : Nat) (y1 : Nat) (y2 : Nat) (y3 : Nat) (y4 : Nat) (y5 : Nat) (y6 : Nat) (y7 : Nat) (y8 : Nat) (y9 : Nat) (y10 : Nat) (f1 : Nat → Int32) (f2 : Nat → Int32) (f3 : Nat → Int32) (f4 : Nat → Int32) (f5 : Nat → Int32) (f6 : Nat → Int32) (f7 : Nat → Int32) (f8 : Nat → Int32) (f9 : Nat → Int32) (h1 : Nat → Int32) (h2 : Nat → Int32) (h3 : Nat → Int32) (h4 : Nat → Int32) (h5 : Nat → Int32) (h6 : Nat → Int32) (h7 : Nat → Int32) (h8 : Nat → Int32) (h9 : Nat → Int32) : Met l yX8_takeFrom (Cond.code yX8_takeFrom cX8_takeFrom 2 none :: gT) ({ frames := 2, cells := 0, slots := 0, locals := 400 } : Room) (va_Pc [.ref a, .ref b] (PRE D cy z [(a, .inr (8, [.ref pa, .int da, .ref x1, .ref x2, .ref x3, .ref x4, .ref x5, .ref x6, .ref x7, .ref x8, .ref x9, .ref x10, .int sa])), (b, .inr (8, [.ref pb, .int db, .ref y1, .ref y2, .ref y3, .ref y4, .ref y5, .ref y6, .ref y7, .ref y8, .ref y9, .ref y10, .int sb])), (x1, .inl (cy 1, 36, .inl f1)), (x2, .inl (cy 1, 6, .inl f2)), (x3, .inl (cy 1, 6, .inl f3)), (x4, .inl (cy 1, 6, .inl f4)), (x5, .inl (cy 1, 6, .inl f5)), (x6, .inl (cy 1, 8, .inl f6)), (x7, .inl (cy 1, 8, .inl f7)), (x8, .inl (cy 1, 8, .inl f8)), (x9, .inl (cy 1, 8, .inl f9)), (y1, .inl (cy 1, 36, .inl h1)), (y2, .inl (cy 1, 6, .inl h2)), (y3, .inl (cy 1, 6, .inl h3)), (y4, .inl (cy 1, 6, .inl h4)), (y5, .inl (cy 1, 6, .inl h5)), (y6, .inl (cy 1, 8, .inl h6)), (y7, .inl (cy 1, 8, .inl h7)), (y8, .inl (cy 1, 8, .inl h8)), (y9, .inl (cy 1, 8, .inl h9))] sz)) (va_Qv (fun (u : (Nat → Int32) × (Nat → Int32) × (Nat → Int32) × (Nat → Int32) × (Nat → Int32) × (Nat → Int32) × (Nat → Int32) × (Nat → Int32) × (Nat → Int32)) => True) (BB D cy (va_A [(a, .inr (8, [.ref pa, .int da, .ref x1, .ref x2, .ref x3, .ref x4, .ref x5, .ref x6, .ref x7, .ref x8, .ref x9, .ref x10, .int sa])), (b, .inr (8, [.ref pb, .int db, .ref y1, .ref y2, .ref y3, .ref y4, .ref y5, .ref y6, .ref y7, .ref y8, .ref y9, .ref y10, .int sb])), (x1, .inl (cy 1, 36, .inl f1)), (x2, .inl (cy 1, 6, .inl f2)), (x3, .inl (cy 1, 6, .inl f3)), (x4, .inl (cy 1, 6, .inl f4)), (x5, .inl (cy 1, 6, .inl f5)), (x6, .inl (cy 1, 8, .inl f6)), (x7, .inl (cy 1, 8, .inl f7)), (x8, .inl (cy 1, 8, .inl f8)), (x9, .inl (cy 1, 8, .inl f9)), (y1, .inl (cy 1, 36, .inl h1)), (y2, .inl (cy 1, 6, .inl h2)), (y3, .inl (cy 1, 6, .inl h3)), (y4, .inl (cy 1, 6, .inl h4)), (y5, .inl (cy 1, 6, .inl h5)), (y6, .inl (cy 1, 8, .inl h6)), (y7, .inl (cy 1, 8, .inl h7)), (y8, .inl (cy 1, 8, .inl h8)), (y9, .inl (cy 1, 8, .inl h9))] sz) (fun (u : (Nat → Int32) × (Nat → Int32) × (Nat → Int32) × (Nat → Int32) × (Nat → Int32) × (Nat → Int32) × (Nat → Int32) × (Nat → Int32) × (Nat → Int32)) => [(a, .inr (8, [.ref pb, .int db, .ref x1, .ref x2, .ref x3, .ref x4, .ref x5, .ref x6, .ref x7, .ref x8, .ref x9, .ref x10, .int sa])), (b, .inr (8, [.ref pb, .int db, .ref y1, .ref y2, .ref y3, .ref y4, .ref y5, .ref y6, .ref y7, .ref y8, .ref y9, .ref y10, .int sb])), (x1, .inl (cy 1, 36, .inl u.1)), (x2, .inl (cy 1, 6, .inl u.2.1)), (x3, .inl (cy 1, 6, .inl u.2.2.1)), (x4, .inl (cy 1, 6, .inl u.2.2.2.1)), (x5, .inl (cy 1, 6, .inl u.2.2.2.2.1)), (x6, .inl (cy 1, 8, .inl u.2.2.2.2.2.1)), (x7, .inl (cy 1, 8, .inl u.2.2.2.2.2.2.1)), (x8, .inl (cy 1, 8, .inl u.2.2.2.2.2.2.2.1)), (x9, .inl (cy 1, 8, .inl u.2.2.2.2.2.2.2.2)), (y1, .inl (cy 1, 36, .inl h1)), (y2, .inl (cy 1, 6, .inl h2)), (y3, .inl (cy 1, 6, .inl h3)), (y4, .inl (cy 1, 6, .inl h4)), (y5, .inl (cy 1, 6, .inl h5)), (y6, .inl (cy 1, 8, .inl h6)), (y7, .inl (cy 1, 8, .inl h7)), (y8, .inl (cy 1, 8, .inl h8)), (y9, .inl (cy 1, 8, .inl h9))])) (va_A [(a, .inr (8, [.ref pa, .int da, .ref x1, .ref x2, .ref x3, .ref x4, .ref x5, .ref x6, .ref x7, .ref x8, .ref x9, .ref x10, .int sa])), (b, .inr (8, [.ref pb, .int db, .ref y1, .ref y2, .ref y3, .ref y4, .ref y5, .ref y6, .ref y7, .ref y8, .ref y9, .ref y10, .int sb])), (x1, .inl (cy 1, 36, .inl f1)), (x2, .inl (cy 1, 6, .inl f2)), (x3, .inl (cy 1, 6, .inl f3)), (x4, .inl (cy 1, 6, .inl f4)), (x5, .inl (cy 1, 6, .inl f5)), (x6, .inl (cy 1, 8, .inl f6)), (x7, .inl (cy 1, 8, .inl f7)), (x8, .inl (cy 1, 8, .inl f8)), (x9, .inl (cy 1, 8, .inl f9)), (y1, .inl (cy 1, 36, .inl h1)), (y2, .inl (cy 1, 6, .inl h2)), (y3, .inl (cy 1, 6, .inl h3)), (y4, .inl (cy 1, 6, .inl h4)), (y5, .inl (cy 1, 6, .inl h5)), (y6, .inl (cy 1, 8, .inl h6)), (y7, .inl (cy 1, 8, .inl h7)), (y8, .inl (cy 1, 8, .inl h8)), (y9, .inl (cy 1, 8, .inl h9))] sz)) 0 0 (va_A [(a, .inr (8, [.ref pa, .int da, .ref x1, .ref x2, .ref x3, .ref x4, .ref x5, .ref x6, .ref x7, .ref x8, .ref x9, .ref x10, .int sa])), (b, .inr (8, [.ref pb, .int db, .ref y1, .ref y2, .ref y3, .ref y4, .ref y5, .ref y6, .ref y7, .ref y8, .ref y9, .ref y10, .int sb])), (x1, .inl (cy 1, 36, .inl f1)), (x2, .inl (cy 1, 6, .inl f2)), (x3, .inl (cy 1, 6, .inl f3)), (x4, .inl (cy 1, 6, .inl f4)), (x5, .inl (cy 1, 6, .inl f5)), (x6, .inl (cy 1, 8, .inl f6)), (x7, .inl (cy 1, 8, .inl f7)), (x8, .inl (cy 1, 8, .inl f8)), (x9, .inl (cy 1, 8, .inl f9)), (y1, .inl (cy 1, 36, .inl h1)), (y2, .inl (cy 1, 6, .inl h2)), (y3, .inl (cy 1, 6, .inl h3)), (y4, .inl (cy 1, 6, .inl h4)), (y5, .inl (cy 1, 6, .inl h5)), (y6, .inl (cy 1, 8, .inl h6)), (y7, .inl (cy 1, 8, .inl h7)), (y8, .inl (cy 1, 8, .inl h8)), (y9, .inl (cy 1, 8, .inl h9))] sz) := by
  refine Met.ofW (cc := cX8_takeFrom) (maxL := 2) (ret := none) (by decide) rfl ?_
  intro p e s m args below meth c s₁ B hml hv
  obtain ⟨rfl, hsz, hP, hK, hD0, hSD⟩ := hv
  have hx := B.exec
  have hb := B.bytes
  have hr := B.returns
  have hlocks := B.notSynchronized
  have hts : ∀ w ∈ gT, w.before _ s = true := fun w h => atoms_spec (ws := Cond.code yX8_takeFrom cX8_takeFrom 2 none :: gT) B.pre w (List.mem_cons_of_mem _ h)
  have hown : s.vm.findClass RX8 = some m.cls := findClass_of_methodNamed B.named
  subst hsz
  have hD := hD0.self (sz := s.heap.size)
  generalize hAe : va_A [(a, .inr (8, [.ref pa, .int da, .ref x1, .ref x2, .ref x3, .ref x4, .ref x5, .ref x6, .ref x7, .ref x8, .ref x9, .ref x10, .int sa])), (b, .inr (8, [.ref pb, .int db, .ref y1, .ref y2, .ref y3, .ref y4, .ref y5, .ref y6, .ref y7, .ref y8, .ref y9, .ref y10, .int sb])), (x1, .inl (cy 1, 36, .inl f1)), (x2, .inl (cy 1, 6, .inl f2)), (x3, .inl (cy 1, 6, .inl f3)), (x4, .inl (cy 1, 6, .inl f4)), (x5, .inl (cy 1, 6, .inl f5)), (x6, .inl (cy 1, 8, .inl f6)), (x7, .inl (cy 1, 8, .inl f7)), (x8, .inl (cy 1, 8, .inl f8)), (x9, .inl (cy 1, 8, .inl f9)), (y1, .inl (cy 1, 36, .inl h1)), (y2, .inl (cy 1, 6, .inl h2)), (y3, .inl (cy 1, 6, .inl h3)), (y4, .inl (cy 1, 6, .inl h4)), (y5, .inl (cy 1, 6, .inl h5)), (y6, .inl (cy 1, 8, .inl h6)), (y7, .inl (cy 1, 8, .inl h7)), (y8, .inl (cy 1, 8, .inl h8)), (y9, .inl (cy 1, 8, .inl h9))] s.heap.size = A at hD hSD ⊢
  have hA : ∀ q : Nat, s.heap.size ≤ q → A q := fun q h => by rw [← hAe]; exact Or.inr h
  have hS : va_S A s.heap s.heap [] := va_S.rf
  have hl := lv_entry ([.ref a, .ref b]) (n := 2) (Nat.le_of_ble_eq_true rfl)
  rw [lg_entry_eq]
  generalize (lg_sl ([.ref a, .ref b]) ++ List.replicate (2 - (lg_sl ([.ref a, .ref b])).length) Slot.unset).toArray = ls at hl ⊢
  have hl : lv_has ls 2 [(0, .ref a), (1, .ref b)] := hl
  refine lv_aload_n hx hb dX8_takeFrom_0 rfl (lv_at hl 0 rfl) ?_
  refine lv_aload_n hx hb dX8_takeFrom_1 rfl (lv_at hl 1 rfl) ?_
  refine va_get (D := D) (ci := 8) (v := .ref pb) (C := RX8) (T := TX8) (N := 13) hx hb hts inX8 hown hK hP 1 rfl rfl 0 (by decide) (hts _ tw_247) (fun _ h9 => h9) rfl dX8_takeFrom_2 ?_
  refine va_put (D := D) (ci := 8) (v := .ref pb) (ty := .object "WonderParcels$Post") (C := RX8) (T := TX8) (N := 13) hx hb hts inX8 tyX8 tyX8_ok nmX8 hown hK hP hD hS 0 rfl rfl 0 (by decide) (hts _ tw_247) (fun _ h9 => h9) rfl (by decide +kernel) rfl rfl (Nat.le_of_ble_eq_true rfl) dX8_takeFrom_5 (fun H locs hP hD hS => ?_)
  have hP : va_P D classes [(a, .inr (8, [.ref pb, .int da, .ref x1, .ref x2, .ref x3, .ref x4, .ref x5, .ref x6, .ref x7, .ref x8, .ref x9, .ref x10, .int sa])), (b, .inr (8, [.ref pb, .int db, .ref y1, .ref y2, .ref y3, .ref y4, .ref y5, .ref y6, .ref y7, .ref y8, .ref y9, .ref y10, .int sb])), (x1, .inl (cy 1, 36, .inl f1)), (x2, .inl (cy 1, 6, .inl f2)), (x3, .inl (cy 1, 6, .inl f3)), (x4, .inl (cy 1, 6, .inl f4)), (x5, .inl (cy 1, 6, .inl f5)), (x6, .inl (cy 1, 8, .inl f6)), (x7, .inl (cy 1, 8, .inl f7)), (x8, .inl (cy 1, 8, .inl f8)), (x9, .inl (cy 1, 8, .inl f9)), (y1, .inl (cy 1, 36, .inl h1)), (y2, .inl (cy 1, 6, .inl h2)), (y3, .inl (cy 1, 6, .inl h3)), (y4, .inl (cy 1, 6, .inl h4)), (y5, .inl (cy 1, 6, .inl h5)), (y6, .inl (cy 1, 8, .inl h6)), (y7, .inl (cy 1, 8, .inl h7)), (y8, .inl (cy 1, 8, .inl h8)), (y9, .inl (cy 1, 8, .inl h9))] H := hP
  have hD : va_D A [(a, .inr (8, [.ref pb, .int da, .ref x1, .ref x2, .ref x3, .ref x4, .ref x5, .ref x6, .ref x7, .ref x8, .ref x9, .ref x10, .int sa])), (b, .inr (8, [.ref pb, .int db, .ref y1, .ref y2, .ref y3, .ref y4, .ref y5, .ref y6, .ref y7, .ref y8, .ref y9, .ref y10, .int sb])), (x1, .inl (cy 1, 36, .inl f1)), (x2, .inl (cy 1, 6, .inl f2)), (x3, .inl (cy 1, 6, .inl f3)), (x4, .inl (cy 1, 6, .inl f4)), (x5, .inl (cy 1, 6, .inl f5)), (x6, .inl (cy 1, 8, .inl f6)), (x7, .inl (cy 1, 8, .inl f7)), (x8, .inl (cy 1, 8, .inl f8)), (x9, .inl (cy 1, 8, .inl f9)), (y1, .inl (cy 1, 36, .inl h1)), (y2, .inl (cy 1, 6, .inl h2)), (y3, .inl (cy 1, 6, .inl h3)), (y4, .inl (cy 1, 6, .inl h4)), (y5, .inl (cy 1, 6, .inl h5)), (y6, .inl (cy 1, 8, .inl h6)), (y7, .inl (cy 1, 8, .inl h7)), (y8, .inl (cy 1, 8, .inl h8)), (y9, .inl (cy 1, 8, .inl h9))] := hD
  refine lv_aload_n hx hb dX8_takeFrom_8 rfl (lv_at hl 0 rfl) ?_
  refine lv_aload_n hx hb dX8_takeFrom_9 rfl (lv_at hl 1 rfl) ?_
  refine va_get (D := D) (ci := 8) (v := .int db) (C := RX8) (T := TX8) (N := 13) hx hb hts inX8 hown hK hP 1 rfl rfl 1 (by decide) (hts _ tw_250) (fun _ h9 => h9) rfl dX8_takeFrom_10 ?_
  refine va_put (D := D) (ci := 8) (v := .int db) (ty := .int) (C := RX8) (T := TX8) (N := 13) hx hb hts inX8 tyX8 tyX8_ok nmX8 hown hK hP hD hS 0 rfl rfl 1 (by decide) (hts _ tw_250) (fun _ h9 => h9) rfl (by decide +kernel) rfl rfl (Nat.le_of_ble_eq_true rfl) dX8_takeFrom_13 (fun H locs hP hD hS => ?_)
  have hP : va_P D classes [(a, .inr (8, [.ref pb, .int db, .ref x1, .ref x2, .ref x3, .ref x4, .ref x5, .ref x6, .ref x7, .ref x8, .ref x9, .ref x10, .int sa])), (b, .inr (8, [.ref pb, .int db, .ref y1, .ref y2, .ref y3, .ref y4, .ref y5, .ref y6, .ref y7, .ref y8, .ref y9, .ref y10, .int sb])), (x1, .inl (cy 1, 36, .inl f1)), (x2, .inl (cy 1, 6, .inl f2)), (x3, .inl (cy 1, 6, .inl f3)), (x4, .inl (cy 1, 6, .inl f4)), (x5, .inl (cy 1, 6, .inl f5)), (x6, .inl (cy 1, 8, .inl f6)), (x7, .inl (cy 1, 8, .inl f7)), (x8, .inl (cy 1, 8, .inl f8)), (x9, .inl (cy 1, 8, .inl f9)), (y1, .inl (cy 1, 36, .inl h1)), (y2, .inl (cy 1, 6, .inl h2)), (y3, .inl (cy 1, 6, .inl h3)), (y4, .inl (cy 1, 6, .inl h4)), (y5, .inl (cy 1, 6, .inl h5)), (y6, .inl (cy 1, 8, .inl h6)), (y7, .inl (cy 1, 8, .inl h7)), (y8, .inl (cy 1, 8, .inl h8)), (y9, .inl (cy 1, 8, .inl h9))] H := hP
  have hD : va_D A [(a, .inr (8, [.ref pb, .int db, .ref x1, .ref x2, .ref x3, .ref x4, .ref x5, .ref x6, .ref x7, .ref x8, .ref x9, .ref x10, .int sa])), (b, .inr (8, [.ref pb, .int db, .ref y1, .ref y2, .ref y3, .ref y4, .ref y5, .ref y6, .ref y7, .ref y8, .ref y9, .ref y10, .int sb])), (x1, .inl (cy 1, 36, .inl f1)), (x2, .inl (cy 1, 6, .inl f2)), (x3, .inl (cy 1, 6, .inl f3)), (x4, .inl (cy 1, 6, .inl f4)), (x5, .inl (cy 1, 6, .inl f5)), (x6, .inl (cy 1, 8, .inl f6)), (x7, .inl (cy 1, 8, .inl f7)), (x8, .inl (cy 1, 8, .inl f8)), (x9, .inl (cy 1, 8, .inl f9)), (y1, .inl (cy 1, 36, .inl h1)), (y2, .inl (cy 1, 6, .inl h2)), (y3, .inl (cy 1, 6, .inl h3)), (y4, .inl (cy 1, 6, .inl h4)), (y5, .inl (cy 1, 6, .inl h5)), (y6, .inl (cy 1, 8, .inl h6)), (y7, .inl (cy 1, 8, .inl h7)), (y8, .inl (cy 1, 8, .inl h8)), (y9, .inl (cy 1, 8, .inl h9))] := hD
  refine lv_aload_n hx hb dX8_takeFrom_16 rfl (lv_at hl 1 rfl) ?_
  refine va_get (D := D) (ci := 8) (v := .ref y1) (C := RX8) (T := TX8) (N := 13) hx hb hts inX8 hown hK hP 1 rfl rfl 2 (by decide) (hts _ tw_252) (fun _ h9 => h9) rfl dX8_takeFrom_17 ?_
  refine lv_iconst (v := 0) hx hb dX8_takeFrom_20 (by decide) ?_
  refine lv_aload_n hx hb dX8_takeFrom_21 rfl (lv_at hl 0 rfl) ?_
  refine va_get (D := D) (ci := 8) (v := .ref x1) (C := RX8) (T := TX8) (N := 13) hx hb hts inX8 hown hK hP 0 rfl rfl 2 (by decide) (hts _ tw_252) (fun _ h9 => h9) rfl dX8_takeFrom_22 ?_
  refine lv_iconst (v := 0) hx hb dX8_takeFrom_25 (by decide) ?_
  refine lv_aload_n hx hb dX8_takeFrom_26 rfl (lv_at hl 0 rfl) ?_
  refine va_get (D := D) (ci := 8) (v := .ref x1) (C := RX8) (T := TX8) (N := 13) hx hb hts inX8 hown hK hP 0 rfl rfl 2 (by decide) (hts _ tw_252) (fun _ h9 => h9) rfl dX8_takeFrom_27 ?_
  refine va_alen (v := 36) hx hb hK hP 2 1 rfl rfl rfl dX8_takeFrom_30 ?_
  refine va_copyi (ty := .int) hx hb (hml.trans hl.1.symm) hown (hts _ tw_525) (hts _ tw_527) (hts _ tw_526) (hts _ tw_17) hK hP hD hS 11 2 1 1 rfl rfl rfl rfl rfl (by decide) (by decide) (by decide) (by decide) (by decide) (fun i hi => rfl) (Nat.le_of_ble_eq_true rfl) (Nat.le_of_ble_eq_true rfl) dX8_takeFrom_31 (fun H locs hP hD hS => ?_)
  obtain ⟨g_1, eg_1⟩ : ∃ g, g = va_cpy h1 f1 (Int32.toNatClampNeg 0) (Int32.toNatClampNeg 0) (Int32.toNatClampNeg 36) := ⟨_, rfl⟩
  have hP : va_P D classes [(a, .inr (8, [.ref pb, .int db, .ref x1, .ref x2, .ref x3, .ref x4, .ref x5, .ref x6, .ref x7, .ref x8, .ref x9, .ref x10, .int sa])), (b, .inr (8, [.ref pb, .int db, .ref y1, .ref y2, .ref y3, .ref y4, .ref y5, .ref y6, .ref y7, .ref y8, .ref y9, .ref y10, .int sb])), (x1, .inl (cy 1, 36, .inl g_1)), (x2, .inl (cy 1, 6, .inl f2)), (x3, .inl (cy 1, 6, .inl f3)), (x4, .inl (cy 1, 6, .inl f4)), (x5, .inl (cy 1, 6, .inl f5)), (x6, .inl (cy 1, 8, .inl f6)), (x7, .inl (cy 1, 8, .inl f7)), (x8, .inl (cy 1, 8, .inl f8)), (x9, .inl (cy 1, 8, .inl f9)), (y1, .inl (cy 1, 36, .inl h1)), (y2, .inl (cy 1, 6, .inl h2)), (y3, .inl (cy 1, 6, .inl h3)), (y4, .inl (cy 1, 6, .inl h4)), (y5, .inl (cy 1, 6, .inl h5)), (y6, .inl (cy 1, 8, .inl h6)), (y7, .inl (cy 1, 8, .inl h7)), (y8, .inl (cy 1, 8, .inl h8)), (y9, .inl (cy 1, 8, .inl h9))] H := by rw [eg_1]; exact hP
  have hD : va_D A [(a, .inr (8, [.ref pb, .int db, .ref x1, .ref x2, .ref x3, .ref x4, .ref x5, .ref x6, .ref x7, .ref x8, .ref x9, .ref x10, .int sa])), (b, .inr (8, [.ref pb, .int db, .ref y1, .ref y2, .ref y3, .ref y4, .ref y5, .ref y6, .ref y7, .ref y8, .ref y9, .ref y10, .int sb])), (x1, .inl (cy 1, 36, .inl g_1)), (x2, .inl (cy 1, 6, .inl f2)), (x3, .inl (cy 1, 6, .inl f3)), (x4, .inl (cy 1, 6, .inl f4)), (x5, .inl (cy 1, 6, .inl f5)), (x6, .inl (cy 1, 8, .inl f6)), (x7, .inl (cy 1, 8, .inl f7)), (x8, .inl (cy 1, 8, .inl f8)), (x9, .inl (cy 1, 8, .inl f9)), (y1, .inl (cy 1, 36, .inl h1)), (y2, .inl (cy 1, 6, .inl h2)), (y3, .inl (cy 1, 6, .inl h3)), (y4, .inl (cy 1, 6, .inl h4)), (y5, .inl (cy 1, 6, .inl h5)), (y6, .inl (cy 1, 8, .inl h6)), (y7, .inl (cy 1, 8, .inl h7)), (y8, .inl (cy 1, 8, .inl h8)), (y9, .inl (cy 1, 8, .inl h9))] := by rw [eg_1]; exact hD
  refine lv_aload_n hx hb dX8_takeFrom_34 rfl (lv_at hl 1 rfl) ?_
  refine va_get (D := D) (ci := 8) (v := .ref y2) (C := RX8) (T := TX8) (N := 13) hx hb hts inX8 hown hK hP 1 rfl rfl 3 (by decide) (hts _ tw_253) (fun _ h9 => h9) rfl dX8_takeFrom_35 ?_
  refine lv_iconst (v := 0) hx hb dX8_takeFrom_38 (by decide) ?_
  refine lv_aload_n hx hb dX8_takeFrom_39 rfl (lv_at hl 0 rfl) ?_
  refine va_get (D := D) (ci := 8) (v := .ref x2) (C := RX8) (T := TX8) (N := 13) hx hb hts inX8 hown hK hP 0 rfl rfl 3 (by decide) (hts _ tw_253) (fun _ h9 => h9) rfl dX8_takeFrom_40 ?_
  refine lv_iconst (v := 0) hx hb dX8_takeFrom_43 (by decide) ?_
  refine lv_aload_n hx hb dX8_takeFrom_44 rfl (lv_at hl 0 rfl) ?_
  refine va_get (D := D) (ci := 8) (v := .ref x2) (C := RX8) (T := TX8) (N := 13) hx hb hts inX8 hown hK hP 0 rfl rfl 3 (by decide) (hts _ tw_253) (fun _ h9 => h9) rfl dX8_takeFrom_45 ?_
  refine va_alen (v := 6) hx hb hK hP 3 1 rfl rfl rfl dX8_takeFrom_48 ?_
  refine va_copyi (ty := .int) hx hb (hml.trans hl.1.symm) hown (hts _ tw_525) (hts _ tw_527) (hts _ tw_526) (hts _ tw_17) hK hP hD hS 12 3 1 1 rfl rfl rfl rfl rfl (by decide) (by decide) (by decide) (by decide) (by decide) (fun i hi => rfl) (Nat.le_of_ble_eq_true rfl) (Nat.le_of_ble_eq_true rfl) dX8_takeFrom_49 (fun H locs hP hD hS => ?_)
  obtain ⟨g_2, eg_2⟩ : ∃ g, g = va_cpy h2 f2 (Int32.toNatClampNeg 0) (Int32.toNatClampNeg 0) (Int32.toNatClampNeg 6) := ⟨_, rfl⟩
  have hP : va_P D classes [(a, .inr (8, [.ref pb, .int db, .ref x1, .ref x2, .ref x3, .ref x4, .ref x5, .ref x6, .ref x7, .ref x8, .ref x9, .ref x10, .int sa])), (b, .inr (8, [.ref pb, .int db, .ref y1, .ref y2, .ref y3, .ref y4, .ref y5, .ref y6, .ref y7, .ref y8, .ref y9, .ref y10, .int sb])), (x1, .inl (cy 1, 36, .inl g_1)), (x2, .inl (cy 1, 6, .inl g_2)), (x3, .inl (cy 1, 6, .inl f3)), (x4, .inl (cy 1, 6, .inl f4)), (x5, .inl (cy 1, 6, .inl f5)), (x6, .inl (cy 1, 8, .inl f6)), (x7, .inl (cy 1, 8, .inl f7)), (x8, .inl (cy 1, 8, .inl f8)), (x9, .inl (cy 1, 8, .inl f9)), (y1, .inl (cy 1, 36, .inl h1)), (y2, .inl (cy 1, 6, .inl h2)), (y3, .inl (cy 1, 6, .inl h3)), (y4, .inl (cy 1, 6, .inl h4)), (y5, .inl (cy 1, 6, .inl h5)), (y6, .inl (cy 1, 8, .inl h6)), (y7, .inl (cy 1, 8, .inl h7)), (y8, .inl (cy 1, 8, .inl h8)), (y9, .inl (cy 1, 8, .inl h9))] H := by rw [eg_2]; exact hP
  have hD : va_D A [(a, .inr (8, [.ref pb, .int db, .ref x1, .ref x2, .ref x3, .ref x4, .ref x5, .ref x6, .ref x7, .ref x8, .ref x9, .ref x10, .int sa])), (b, .inr (8, [.ref pb, .int db, .ref y1, .ref y2, .ref y3, .ref y4, .ref y5, .ref y6, .ref y7, .ref y8, .ref y9, .ref y10, .int sb])), (x1, .inl (cy 1, 36, .inl g_1)), (x2, .inl (cy 1, 6, .inl g_2)), (x3, .inl (cy 1, 6, .inl f3)), (x4, .inl (cy 1, 6, .inl f4)), (x5, .inl (cy 1, 6, .inl f5)), (x6, .inl (cy 1, 8, .inl f6)), (x7, .inl (cy 1, 8, .inl f7)), (x8, .inl (cy 1, 8, .inl f8)), (x9, .inl (cy 1, 8, .inl f9)), (y1, .inl (cy 1, 36, .inl h1)), (y2, .inl (cy 1, 6, .inl h2)), (y3, .inl (cy 1, 6, .inl h3)), (y4, .inl (cy 1, 6, .inl h4)), (y5, .inl (cy 1, 6, .inl h5)), (y6, .inl (cy 1, 8, .inl h6)), (y7, .inl (cy 1, 8, .inl h7)), (y8, .inl (cy 1, 8, .inl h8)), (y9, .inl (cy 1, 8, .inl h9))] := by rw [eg_2]; exact hD
  refine lv_aload_n hx hb dX8_takeFrom_52 rfl (lv_at hl 1 rfl) ?_
  refine va_get (D := D) (ci := 8) (v := .ref y3) (C := RX8) (T := TX8) (N := 13) hx hb hts inX8 hown hK hP 1 rfl rfl 4 (by decide) (hts _ tw_257) (fun _ h9 => h9) rfl dX8_takeFrom_53 ?_
  refine lv_iconst (v := 0) hx hb dX8_takeFrom_56 (by decide) ?_
  refine lv_aload_n hx hb dX8_takeFrom_57 rfl (lv_at hl 0 rfl) ?_
  refine va_get (D := D) (ci := 8) (v := .ref x3) (C := RX8) (T := TX8) (N := 13) hx hb hts inX8 hown hK hP 0 rfl rfl 4 (by decide) (hts _ tw_257) (fun _ h9 => h9) rfl dX8_takeFrom_58 ?_
  refine lv_iconst (v := 0) hx hb dX8_takeFrom_61 (by decide) ?_
  refine lv_aload_n hx hb dX8_takeFrom_62 rfl (lv_at hl 0 rfl) ?_
  refine va_get (D := D) (ci := 8) (v := .ref x3) (C := RX8) (T := TX8) (N := 13) hx hb hts inX8 hown hK hP 0 rfl rfl 4 (by decide) (hts _ tw_257) (fun _ h9 => h9) rfl dX8_takeFrom_63 ?_
  refine va_alen (v := 6) hx hb hK hP 4 1 rfl rfl rfl dX8_takeFrom_66 ?_
  refine va_copyi (ty := .int) hx hb (hml.trans hl.1.symm) hown (hts _ tw_525) (hts _ tw_527) (hts _ tw_526) (hts _ tw_17) hK hP hD hS 13 4 1 1 rfl rfl rfl rfl rfl (by decide) (by decide) (by decide) (by decide) (by decide) (fun i hi => rfl) (Nat.le_of_ble_eq_true rfl) (Nat.le_of_ble_eq_true rfl) dX8_takeFrom_67 (fun H locs hP hD hS => ?_)
  obtain ⟨g_3, eg_3⟩ : ∃ g, g = va_cpy h3 f3 (Int32.toNatClampNeg 0) (Int32.toNatClampNeg 0) (Int32.toNatClampNeg 6) := ⟨_, rfl⟩
  have hP : va_P D classes [(a, .inr (8, [.ref pb, .int db, .ref x1, .ref x2, .ref x3, .ref x4, .ref x5, .ref x6, .ref x7, .ref x8, .ref x9, .ref x10, .int sa])), (b, .inr (8, [.ref pb, .int db, .ref y1, .ref y2, .ref y3, .ref y4, .ref y5, .ref y6, .ref y7, .ref y8, .ref y9, .ref y10, .int sb])), (x1, .inl (cy 1, 36, .inl g_1)), (x2, .inl (cy 1, 6, .inl g_2)), (x3, .inl (cy 1, 6, .inl g_3)), (x4, .inl (cy 1, 6, .inl f4)), (x5, .inl (cy 1, 6, .inl f5)), (x6, .inl (cy 1, 8, .inl f6)), (x7, .inl (cy 1, 8, .inl f7)), (x8, .inl (cy 1, 8, .inl f8)), (x9, .inl (cy 1, 8, .inl f9)), (y1, .inl (cy 1, 36, .inl h1)), (y2, .inl (cy 1, 6, .inl h2)), (y3, .inl (cy 1, 6, .inl h3)), (y4, .inl (cy 1, 6, .inl h4)), (y5, .inl (cy 1, 6, .inl h5)), (y6, .inl (cy 1, 8, .inl h6)), (y7, .inl (cy 1, 8, .inl h7)), (y8, .inl (cy 1, 8, .inl h8)), (y9, .inl (cy 1, 8, .inl h9))] H := by rw [eg_3]; exact hP
  have hD : va_D A [(a, .inr (8, [.ref pb, .int db, .ref x1, .ref x2, .ref x3, .ref x4, .ref x5, .ref x6, .ref x7, .ref x8, .ref x9, .ref x10, .int sa])), (b, .inr (8, [.ref pb, .int db, .ref y1, .ref y2, .ref y3, .ref y4, .ref y5, .ref y6, .ref y7, .ref y8, .ref y9, .ref y10, .int sb])), (x1, .inl (cy 1, 36, .inl g_1)), (x2, .inl (cy 1, 6, .inl g_2)), (x3, .inl (cy 1, 6, .inl g_3)), (x4, .inl (cy 1, 6, .inl f4)), (x5, .inl (cy 1, 6, .inl f5)), (x6, .inl (cy 1, 8, .inl f6)), (x7, .inl (cy 1, 8, .inl f7)), (x8, .inl (cy 1, 8, .inl f8)), (x9, .inl (cy 1, 8, .inl f9)), (y1, .inl (cy 1, 36, .inl h1)), (y2, .inl (cy 1, 6, .inl h2)), (y3, .inl (cy 1, 6, .inl h3)), (y4, .inl (cy 1, 6, .inl h4)), (y5, .inl (cy 1, 6, .inl h5)), (y6, .inl (cy 1, 8, .inl h6)), (y7, .inl (cy 1, 8, .inl h7)), (y8, .inl (cy 1, 8, .inl h8)), (y9, .inl (cy 1, 8, .inl h9))] := by rw [eg_3]; exact hD
  refine lv_aload_n hx hb dX8_takeFrom_70 rfl (lv_at hl 1 rfl) ?_
  refine va_get (D := D) (ci := 8) (v := .ref y4) (C := RX8) (T := TX8) (N := 13) hx hb hts inX8 hown hK hP 1 rfl rfl 5 (by decide) (hts _ tw_260) (fun _ h9 => h9) rfl dX8_takeFrom_71 ?_
  refine lv_iconst (v := 0) hx hb dX8_takeFrom_74 (by decide) ?_
  refine lv_aload_n hx hb dX8_takeFrom_75 rfl (lv_at hl 0 rfl) ?_
  refine va_get (D := D) (ci := 8) (v := .ref x4) (C := RX8) (T := TX8) (N := 13) hx hb hts inX8 hown hK hP 0 rfl rfl 5 (by decide) (hts _ tw_260) (fun _ h9 => h9) rfl dX8_takeFrom_76 ?_
  refine lv_iconst (v := 0) hx hb dX8_takeFrom_79 (by decide) ?_
  refine lv_aload_n hx hb dX8_takeFrom_80 rfl (lv_at hl 0 rfl) ?_
  refine va_get (D := D) (ci := 8) (v := .ref x4) (C := RX8) (T := TX8) (N := 13) hx hb hts inX8 hown hK hP 0 rfl rfl 5 (by decide) (hts _ tw_260) (fun _ h9 => h9) rfl dX8_takeFrom_81 ?_
  refine va_alen (v := 6) hx hb hK hP 5 1 rfl rfl rfl dX8_takeFrom_84 ?_
  refine va_copyi (ty := .int) hx hb (hml.trans hl.1.symm) hown (hts _ tw_525) (hts _ tw_527) (hts _ tw_526) (hts _ tw_17) hK hP hD hS 14 5 1 1 rfl rfl rfl rfl rfl (by decide) (by decide) (by decide) (by decide) (by decide) (fun i hi => rfl) (Nat.le_of_ble_eq_true rfl) (Nat.le_of_ble_eq_true rfl) dX8_takeFrom_85 (fun H locs hP hD hS => ?_)
  obtain ⟨g_4, eg_4⟩ : ∃ g, g = va_cpy h4 f4 (Int32.toNatClampNeg 0) (Int32.toNatClampNeg 0) (Int32.toNatClampNeg 6) := ⟨_, rfl⟩
  have hP : va_P D classes [(a, .inr (8, [.ref pb, .int db, .ref x1, .ref x2, .ref x3, .ref x4, .ref x5, .ref x6, .ref x7, .ref x8, .ref x9, .ref x10, .int sa])), (b, .inr (8, [.ref pb, .int db, .ref y1, .ref y2, .ref y3, .ref y4, .ref y5, .ref y6, .ref y7, .ref y8, .ref y9, .ref y10, .int sb])), (x1, .inl (cy 1, 36, .inl g_1)), (x2, .inl (cy 1, 6, .inl g_2)), (x3, .inl (cy 1, 6, .inl g_3)), (x4, .inl (cy 1, 6, .inl g_4)), (x5, .inl (cy 1, 6, .inl f5)), (x6, .inl (cy 1, 8, .inl f6)), (x7, .inl (cy 1, 8, .inl f7)), (x8, .inl (cy 1, 8, .inl f8)), (x9, .inl (cy 1, 8, .inl f9)), (y1, .inl (cy 1, 36, .inl h1)), (y2, .inl (cy 1, 6, .inl h2)), (y3, .inl (cy 1, 6, .inl h3)), (y4, .inl (cy 1, 6, .inl h4)), (y5, .inl (cy 1, 6, .inl h5)), (y6, .inl (cy 1, 8, .inl h6)), (y7, .inl (cy 1, 8, .inl h7)), (y8, .inl (cy 1, 8, .inl h8)), (y9, .inl (cy 1, 8, .inl h9))] H := by rw [eg_4]; exact hP
  have hD : va_D A [(a, .inr (8, [.ref pb, .int db, .ref x1, .ref x2, .ref x3, .ref x4, .ref x5, .ref x6, .ref x7, .ref x8, .ref x9, .ref x10, .int sa])), (b, .inr (8, [.ref pb, .int db, .ref y1, .ref y2, .ref y3, .ref y4, .ref y5, .ref y6, .ref y7, .ref y8, .ref y9, .ref y10, .int sb])), (x1, .inl (cy 1, 36, .inl g_1)), (x2, .inl (cy 1, 6, .inl g_2)), (x3, .inl (cy 1, 6, .inl g_3)), (x4, .inl (cy 1, 6, .inl g_4)), (x5, .inl (cy 1, 6, .inl f5)), (x6, .inl (cy 1, 8, .inl f6)), (x7, .inl (cy 1, 8, .inl f7)), (x8, .inl (cy 1, 8, .inl f8)), (x9, .inl (cy 1, 8, .inl f9)), (y1, .inl (cy 1, 36, .inl h1)), (y2, .inl (cy 1, 6, .inl h2)), (y3, .inl (cy 1, 6, .inl h3)), (y4, .inl (cy 1, 6, .inl h4)), (y5, .inl (cy 1, 6, .inl h5)), (y6, .inl (cy 1, 8, .inl h6)), (y7, .inl (cy 1, 8, .inl h7)), (y8, .inl (cy 1, 8, .inl h8)), (y9, .inl (cy 1, 8, .inl h9))] := by rw [eg_4]; exact hD
  refine lv_aload_n hx hb dX8_takeFrom_88 rfl (lv_at hl 1 rfl) ?_
  refine va_get (D := D) (ci := 8) (v := .ref y5) (C := RX8) (T := TX8) (N := 13) hx hb hts inX8 hown hK hP 1 rfl rfl 6 (by decide) (hts _ tw_262) (fun _ h9 => h9) rfl dX8_takeFrom_89 ?_
  refine lv_iconst (v := 0) hx hb dX8_takeFrom_92 (by decide) ?_
  refine lv_aload_n hx hb dX8_takeFrom_93 rfl (lv_at hl 0 rfl) ?_
  refine va_get (D := D) (ci := 8) (v := .ref x5) (C := RX8) (T := TX8) (N := 13) hx hb hts inX8 hown hK hP 0 rfl rfl 6 (by decide) (hts _ tw_262) (fun _ h9 => h9) rfl dX8_takeFrom_94 ?_
  refine lv_iconst (v := 0) hx hb dX8_takeFrom_97 (by decide) ?_
  refine lv_aload_n hx hb dX8_takeFrom_98 rfl (lv_at hl 0 rfl) ?_
  refine va_get (D := D) (ci := 8) (v := .ref x5) (C := RX8) (T := TX8) (N := 13) hx hb hts inX8 hown hK hP 0 rfl rfl 6 (by decide) (hts _ tw_262) (fun _ h9 => h9) rfl dX8_takeFrom_99 ?_
  refine va_alen (v := 6) hx hb hK hP 6 1 rfl rfl rfl dX8_takeFrom_102 ?_
  refine va_copyi (ty := .int) hx hb (hml.trans hl.1.symm) hown (hts _ tw_525) (hts _ tw_527) (hts _ tw_526) (hts _ tw_17) hK hP hD hS 15 6 1 1 rfl rfl rfl rfl rfl (by decide) (by decide) (by decide) (by decide) (by decide) (fun i hi => rfl) (Nat.le_of_ble_eq_true rfl) (Nat.le_of_ble_eq_true rfl) dX8_takeFrom_103 (fun H locs hP hD hS => ?_)
  obtain ⟨g_5, eg_5⟩ : ∃ g, g = va_cpy h5 f5 (Int32.toNatClampNeg 0) (Int32.toNatClampNeg 0) (Int32.toNatClampNeg 6) := ⟨_, rfl⟩
  have hP : va_P D classes [(a, .inr (8, [.ref pb, .int db, .ref x1, .ref x2, .ref x3, .ref x4, .ref x5, .ref x6, .ref x7, .ref x8, .ref x9, .ref x10, .int sa])), (b, .inr (8, [.ref pb, .int db, .ref y1, .ref y2, .ref y3, .ref y4, .ref y5, .ref y6, .ref y7, .ref y8, .ref y9, .ref y10, .int sb])), (x1, .inl (cy 1, 36, .inl g_1)), (x2, .inl (cy 1, 6, .inl g_2)), (x3, .inl (cy 1, 6, .inl g_3)), (x4, .inl (cy 1, 6, .inl g_4)), (x5, .inl (cy 1, 6, .inl g_5)), (x6, .inl (cy 1, 8, .inl f6)), (x7, .inl (cy 1, 8, .inl f7)), (x8, .inl (cy 1, 8, .inl f8)), (x9, .inl (cy 1, 8, .inl f9)), (y1, .inl (cy 1, 36, .inl h1)), (y2, .inl (cy 1, 6, .inl h2)), (y3, .inl (cy 1, 6, .inl h3)), (y4, .inl (cy 1, 6, .inl h4)), (y5, .inl (cy 1, 6, .inl h5)), (y6, .inl (cy 1, 8, .inl h6)), (y7, .inl (cy 1, 8, .inl h7)), (y8, .inl (cy 1, 8, .inl h8)), (y9, .inl (cy 1, 8, .inl h9))] H := by rw [eg_5]; exact hP
  have hD : va_D A [(a, .inr (8, [.ref pb, .int db, .ref x1, .ref x2, .ref x3, .ref x4, .ref x5, .ref x6, .ref x7, .ref x8, .ref x9, .ref x10, .int sa])), (b, .inr (8, [.ref pb, .int db, .ref y1, .ref y2, .ref y3, .ref y4, .ref y5, .ref y6, .ref y7, .ref y8, .ref y9, .ref y10, .int sb])), (x1, .inl (cy 1, 36, .inl g_1)), (x2, .inl (cy 1, 6, .inl g_2)), (x3, .inl (cy 1, 6, .inl g_3)), (x4, .inl (cy 1, 6, .inl g_4)), (x5, .inl (cy 1, 6, .inl g_5)), (x6, .inl (cy 1, 8, .inl f6)), (x7, .inl (cy 1, 8, .inl f7)), (x8, .inl (cy 1, 8, .inl f8)), (x9, .inl (cy 1, 8, .inl f9)), (y1, .inl (cy 1, 36, .inl h1)), (y2, .inl (cy 1, 6, .inl h2)), (y3, .inl (cy 1, 6, .inl h3)), (y4, .inl (cy 1, 6, .inl h4)), (y5, .inl (cy 1, 6, .inl h5)), (y6, .inl (cy 1, 8, .inl h6)), (y7, .inl (cy 1, 8, .inl h7)), (y8, .inl (cy 1, 8, .inl h8)), (y9, .inl (cy 1, 8, .inl h9))] := by rw [eg_5]; exact hD
  refine lv_aload_n hx hb dX8_takeFrom_106 rfl (lv_at hl 1 rfl) ?_
  refine va_get (D := D) (ci := 8) (v := .ref y6) (C := RX8) (T := TX8) (N := 13) hx hb hts inX8 hown hK hP 1 rfl rfl 7 (by decide) (hts _ tw_265) (fun _ h9 => h9) rfl dX8_takeFrom_107 ?_
  refine lv_iconst (v := 0) hx hb dX8_takeFrom_110 (by decide) ?_
  refine lv_aload_n hx hb dX8_takeFrom_111 rfl (lv_at hl 0 rfl) ?_
  refine va_get (D := D) (ci := 8) (v := .ref x6) (C := RX8) (T := TX8) (N := 13) hx hb hts inX8 hown hK hP 0 rfl rfl 7 (by decide) (hts _ tw_265) (fun _ h9 => h9) rfl dX8_takeFrom_112 ?_
  refine lv_iconst (v := 0) hx hb dX8_takeFrom_115 (by decide) ?_
  refine lv_aload_n hx hb dX8_takeFrom_116 rfl (lv_at hl 0 rfl) ?_
  refine va_get (D := D) (ci := 8) (v := .ref x6) (C := RX8) (T := TX8) (N := 13) hx hb hts inX8 hown hK hP 0 rfl rfl 7 (by decide) (hts _ tw_265) (fun _ h9 => h9) rfl dX8_takeFrom_117 ?_
  refine va_alen (v := 8) hx hb hK hP 7 1 rfl rfl rfl dX8_takeFrom_120 ?_
  refine va_copyi (ty := .int) hx hb (hml.trans hl.1.symm) hown (hts _ tw_525) (hts _ tw_527) (hts _ tw_526) (hts _ tw_17) hK hP hD hS 16 7 1 1 rfl rfl rfl rfl rfl (by decide) (by decide) (by decide) (by decide) (by decide) (fun i hi => rfl) (Nat.le_of_ble_eq_true rfl) (Nat.le_of_ble_eq_true rfl) dX8_takeFrom_121 (fun H locs hP hD hS => ?_)
  obtain ⟨g_6, eg_6⟩ : ∃ g, g = va_cpy h6 f6 (Int32.toNatClampNeg 0) (Int32.toNatClampNeg 0) (Int32.toNatClampNeg 8) := ⟨_, rfl⟩
  have hP : va_P D classes [(a, .inr (8, [.ref pb, .int db, .ref x1, .ref x2, .ref x3, .ref x4, .ref x5, .ref x6, .ref x7, .ref x8, .ref x9, .ref x10, .int sa])), (b, .inr (8, [.ref pb, .int db, .ref y1, .ref y2, .ref y3, .ref y4, .ref y5, .ref y6, .ref y7, .ref y8, .ref y9, .ref y10, .int sb])), (x1, .inl (cy 1, 36, .inl g_1)), (x2, .inl (cy 1, 6, .inl g_2)), (x3, .inl (cy 1, 6, .inl g_3)), (x4, .inl (cy 1, 6, .inl g_4)), (x5, .inl (cy 1, 6, .inl g_5)), (x6, .inl (cy 1, 8, .inl g_6)), (x7, .inl (cy 1, 8, .inl f7)), (x8, .inl (cy 1, 8, .inl f8)), (x9, .inl (cy 1, 8, .inl f9)), (y1, .inl (cy 1, 36, .inl h1)), (y2, .inl (cy 1, 6, .inl h2)), (y3, .inl (cy 1, 6, .inl h3)), (y4, .inl (cy 1, 6, .inl h4)), (y5, .inl (cy 1, 6, .inl h5)), (y6, .inl (cy 1, 8, .inl h6)), (y7, .inl (cy 1, 8, .inl h7)), (y8, .inl (cy 1, 8, .inl h8)), (y9, .inl (cy 1, 8, .inl h9))] H := by rw [eg_6]; exact hP
  have hD : va_D A [(a, .inr (8, [.ref pb, .int db, .ref x1, .ref x2, .ref x3, .ref x4, .ref x5, .ref x6, .ref x7, .ref x8, .ref x9, .ref x10, .int sa])), (b, .inr (8, [.ref pb, .int db, .ref y1, .ref y2, .ref y3, .ref y4, .ref y5, .ref y6, .ref y7, .ref y8, .ref y9, .ref y10, .int sb])), (x1, .inl (cy 1, 36, .inl g_1)), (x2, .inl (cy 1, 6, .inl g_2)), (x3, .inl (cy 1, 6, .inl g_3)), (x4, .inl (cy 1, 6, .inl g_4)), (x5, .inl (cy 1, 6, .inl g_5)), (x6, .inl (cy 1, 8, .inl g_6)), (x7, .inl (cy 1, 8, .inl f7)), (x8, .inl (cy 1, 8, .inl f8)), (x9, .inl (cy 1, 8, .inl f9)), (y1, .inl (cy 1, 36, .inl h1)), (y2, .inl (cy 1, 6, .inl h2)), (y3, .inl (cy 1, 6, .inl h3)), (y4, .inl (cy 1, 6, .inl h4)), (y5, .inl (cy 1, 6, .inl h5)), (y6, .inl (cy 1, 8, .inl h6)), (y7, .inl (cy 1, 8, .inl h7)), (y8, .inl (cy 1, 8, .inl h8)), (y9, .inl (cy 1, 8, .inl h9))] := by rw [eg_6]; exact hD
  refine lv_aload_n hx hb dX8_takeFrom_124 rfl (lv_at hl 1 rfl) ?_
  refine va_get (D := D) (ci := 8) (v := .ref y7) (C := RX8) (T := TX8) (N := 13) hx hb hts inX8 hown hK hP 1 rfl rfl 8 (by decide) (hts _ tw_268) (fun _ h9 => h9) rfl dX8_takeFrom_125 ?_
  refine lv_iconst (v := 0) hx hb dX8_takeFrom_128 (by decide) ?_
  refine lv_aload_n hx hb dX8_takeFrom_129 rfl (lv_at hl 0 rfl) ?_
  refine va_get (D := D) (ci := 8) (v := .ref x7) (C := RX8) (T := TX8) (N := 13) hx hb hts inX8 hown hK hP 0 rfl rfl 8 (by decide) (hts _ tw_268) (fun _ h9 => h9) rfl dX8_takeFrom_130 ?_
  refine lv_iconst (v := 0) hx hb dX8_takeFrom_133 (by decide) ?_
  refine lv_aload_n hx hb dX8_takeFrom_134 rfl (lv_at hl 0 rfl) ?_
  refine va_get (D := D) (ci := 8) (v := .ref x7) (C := RX8) (T := TX8) (N := 13) hx hb hts inX8 hown hK hP 0 rfl rfl 8 (by decide) (hts _ tw_268) (fun _ h9 => h9) rfl dX8_takeFrom_135 ?_
  refine va_alen (v := 8) hx hb hK hP 8 1 rfl rfl rfl dX8_takeFrom_138 ?_
  refine va_copyi (ty := .int) hx hb (hml.trans hl.1.symm) hown (hts _ tw_525) (hts _ tw_527) (hts _ tw_526) (hts _ tw_17) hK hP hD hS 17 8 1 1 rfl rfl rfl rfl rfl (by decide) (by decide) (by decide) (by decide) (by decide) (fun i hi => rfl) (Nat.le_of_ble_eq_true rfl) (Nat.le_of_ble_eq_true rfl) dX8_takeFrom_139 (fun H locs hP hD hS => ?_)
  obtain ⟨g_7, eg_7⟩ : ∃ g, g = va_cpy h7 f7 (Int32.toNatClampNeg 0) (Int32.toNatClampNeg 0) (Int32.toNatClampNeg 8) := ⟨_, rfl⟩
  have hP : va_P D classes [(a, .inr (8, [.ref pb, .int db, .ref x1, .ref x2, .ref x3, .ref x4, .ref x5, .ref x6, .ref x7, .ref x8, .ref x9, .ref x10, .int sa])), (b, .inr (8, [.ref pb, .int db, .ref y1, .ref y2, .ref y3, .ref y4, .ref y5, .ref y6, .ref y7, .ref y8, .ref y9, .ref y10, .int sb])), (x1, .inl (cy 1, 36, .inl g_1)), (x2, .inl (cy 1, 6, .inl g_2)), (x3, .inl (cy 1, 6, .inl g_3)), (x4, .inl (cy 1, 6, .inl g_4)), (x5, .inl (cy 1, 6, .inl g_5)), (x6, .inl (cy 1, 8, .inl g_6)), (x7, .inl (cy 1, 8, .inl g_7)), (x8, .inl (cy 1, 8, .inl f8)), (x9, .inl (cy 1, 8, .inl f9)), (y1, .inl (cy 1, 36, .inl h1)), (y2, .inl (cy 1, 6, .inl h2)), (y3, .inl (cy 1, 6, .inl h3)), (y4, .inl (cy 1, 6, .inl h4)), (y5, .inl (cy 1, 6, .inl h5)), (y6, .inl (cy 1, 8, .inl h6)), (y7, .inl (cy 1, 8, .inl h7)), (y8, .inl (cy 1, 8, .inl h8)), (y9, .inl (cy 1, 8, .inl h9))] H := by rw [eg_7]; exact hP
  have hD : va_D A [(a, .inr (8, [.ref pb, .int db, .ref x1, .ref x2, .ref x3, .ref x4, .ref x5, .ref x6, .ref x7, .ref x8, .ref x9, .ref x10, .int sa])), (b, .inr (8, [.ref pb, .int db, .ref y1, .ref y2, .ref y3, .ref y4, .ref y5, .ref y6, .ref y7, .ref y8, .ref y9, .ref y10, .int sb])), (x1, .inl (cy 1, 36, .inl g_1)), (x2, .inl (cy 1, 6, .inl g_2)), (x3, .inl (cy 1, 6, .inl g_3)), (x4, .inl (cy 1, 6, .inl g_4)), (x5, .inl (cy 1, 6, .inl g_5)), (x6, .inl (cy 1, 8, .inl g_6)), (x7, .inl (cy 1, 8, .inl g_7)), (x8, .inl (cy 1, 8, .inl f8)), (x9, .inl (cy 1, 8, .inl f9)), (y1, .inl (cy 1, 36, .inl h1)), (y2, .inl (cy 1, 6, .inl h2)), (y3, .inl (cy 1, 6, .inl h3)), (y4, .inl (cy 1, 6, .inl h4)), (y5, .inl (cy 1, 6, .inl h5)), (y6, .inl (cy 1, 8, .inl h6)), (y7, .inl (cy 1, 8, .inl h7)), (y8, .inl (cy 1, 8, .inl h8)), (y9, .inl (cy 1, 8, .inl h9))] := by rw [eg_7]; exact hD
  refine lv_aload_n hx hb dX8_takeFrom_142 rfl (lv_at hl 1 rfl) ?_
  refine va_get (D := D) (ci := 8) (v := .ref y8) (C := RX8) (T := TX8) (N := 13) hx hb hts inX8 hown hK hP 1 rfl rfl 9 (by decide) (hts _ tw_271) (fun _ h9 => h9) rfl dX8_takeFrom_143 ?_
  refine lv_iconst (v := 0) hx hb dX8_takeFrom_146 (by decide) ?_
  refine lv_aload_n hx hb dX8_takeFrom_147 rfl (lv_at hl 0 rfl) ?_
  refine va_get (D := D) (ci := 8) (v := .ref x8) (C := RX8) (T := TX8) (N := 13) hx hb hts inX8 hown hK hP 0 rfl rfl 9 (by decide) (hts _ tw_271) (fun _ h9 => h9) rfl dX8_takeFrom_148 ?_
  refine lv_iconst (v := 0) hx hb dX8_takeFrom_151 (by decide) ?_
  refine lv_aload_n hx hb dX8_takeFrom_152 rfl (lv_at hl 0 rfl) ?_
  refine va_get (D := D) (ci := 8) (v := .ref x8) (C := RX8) (T := TX8) (N := 13) hx hb hts inX8 hown hK hP 0 rfl rfl 9 (by decide) (hts _ tw_271) (fun _ h9 => h9) rfl dX8_takeFrom_153 ?_
  refine va_alen (v := 8) hx hb hK hP 9 1 rfl rfl rfl dX8_takeFrom_156 ?_
  refine va_copyi (ty := .int) hx hb (hml.trans hl.1.symm) hown (hts _ tw_525) (hts _ tw_527) (hts _ tw_526) (hts _ tw_17) hK hP hD hS 18 9 1 1 rfl rfl rfl rfl rfl (by decide) (by decide) (by decide) (by decide) (by decide) (fun i hi => rfl) (Nat.le_of_ble_eq_true rfl) (Nat.le_of_ble_eq_true rfl) dX8_takeFrom_157 (fun H locs hP hD hS => ?_)
  obtain ⟨g_8, eg_8⟩ : ∃ g, g = va_cpy h8 f8 (Int32.toNatClampNeg 0) (Int32.toNatClampNeg 0) (Int32.toNatClampNeg 8) := ⟨_, rfl⟩
  have hP : va_P D classes [(a, .inr (8, [.ref pb, .int db, .ref x1, .ref x2, .ref x3, .ref x4, .ref x5, .ref x6, .ref x7, .ref x8, .ref x9, .ref x10, .int sa])), (b, .inr (8, [.ref pb, .int db, .ref y1, .ref y2, .ref y3, .ref y4, .ref y5, .ref y6, .ref y7, .ref y8, .ref y9, .ref y10, .int sb])), (x1, .inl (cy 1, 36, .inl g_1)), (x2, .inl (cy 1, 6, .inl g_2)), (x3, .inl (cy 1, 6, .inl g_3)), (x4, .inl (cy 1, 6, .inl g_4)), (x5, .inl (cy 1, 6, .inl g_5)), (x6, .inl (cy 1, 8, .inl g_6)), (x7, .inl (cy 1, 8, .inl g_7)), (x8, .inl (cy 1, 8, .inl g_8)), (x9, .inl (cy 1, 8, .inl f9)), (y1, .inl (cy 1, 36, .inl h1)), (y2, .inl (cy 1, 6, .inl h2)), (y3, .inl (cy 1, 6, .inl h3)), (y4, .inl (cy 1, 6, .inl h4)), (y5, .inl (cy 1, 6, .inl h5)), (y6, .inl (cy 1, 8, .inl h6)), (y7, .inl (cy 1, 8, .inl h7)), (y8, .inl (cy 1, 8, .inl h8)), (y9, .inl (cy 1, 8, .inl h9))] H := by rw [eg_8]; exact hP
  have hD : va_D A [(a, .inr (8, [.ref pb, .int db, .ref x1, .ref x2, .ref x3, .ref x4, .ref x5, .ref x6, .ref x7, .ref x8, .ref x9, .ref x10, .int sa])), (b, .inr (8, [.ref pb, .int db, .ref y1, .ref y2, .ref y3, .ref y4, .ref y5, .ref y6, .ref y7, .ref y8, .ref y9, .ref y10, .int sb])), (x1, .inl (cy 1, 36, .inl g_1)), (x2, .inl (cy 1, 6, .inl g_2)), (x3, .inl (cy 1, 6, .inl g_3)), (x4, .inl (cy 1, 6, .inl g_4)), (x5, .inl (cy 1, 6, .inl g_5)), (x6, .inl (cy 1, 8, .inl g_6)), (x7, .inl (cy 1, 8, .inl g_7)), (x8, .inl (cy 1, 8, .inl g_8)), (x9, .inl (cy 1, 8, .inl f9)), (y1, .inl (cy 1, 36, .inl h1)), (y2, .inl (cy 1, 6, .inl h2)), (y3, .inl (cy 1, 6, .inl h3)), (y4, .inl (cy 1, 6, .inl h4)), (y5, .inl (cy 1, 6, .inl h5)), (y6, .inl (cy 1, 8, .inl h6)), (y7, .inl (cy 1, 8, .inl h7)), (y8, .inl (cy 1, 8, .inl h8)), (y9, .inl (cy 1, 8, .inl h9))] := by rw [eg_8]; exact hD
  refine lv_aload_n hx hb dX8_takeFrom_160 rfl (lv_at hl 1 rfl) ?_
  refine va_get (D := D) (ci := 8) (v := .ref y9) (C := RX8) (T := TX8) (N := 13) hx hb hts inX8 hown hK hP 1 rfl rfl 10 (by decide) (hts _ tw_273) (fun _ h9 => h9) rfl dX8_takeFrom_161 ?_
  refine lv_iconst (v := 0) hx hb dX8_takeFrom_164 (by decide) ?_
  refine lv_aload_n hx hb dX8_takeFrom_165 rfl (lv_at hl 0 rfl) ?_
  refine va_get (D := D) (ci := 8) (v := .ref x9) (C := RX8) (T := TX8) (N := 13) hx hb hts inX8 hown hK hP 0 rfl rfl 10 (by decide) (hts _ tw_273) (fun _ h9 => h9) rfl dX8_takeFrom_166 ?_
  refine lv_iconst (v := 0) hx hb dX8_takeFrom_169 (by decide) ?_
  refine lv_aload_n hx hb dX8_takeFrom_170 rfl (lv_at hl 0 rfl) ?_
  refine va_get (D := D) (ci := 8) (v := .ref x9) (C := RX8) (T := TX8) (N := 13) hx hb hts inX8 hown hK hP 0 rfl rfl 10 (by decide) (hts _ tw_273) (fun _ h9 => h9) rfl dX8_takeFrom_171 ?_
  refine va_alen (v := 8) hx hb hK hP 10 1 rfl rfl rfl dX8_takeFrom_174 ?_
  refine va_copyi (ty := .int) hx hb (hml.trans hl.1.symm) hown (hts _ tw_525) (hts _ tw_527) (hts _ tw_526) (hts _ tw_17) hK hP hD hS 19 10 1 1 rfl rfl rfl rfl rfl (by decide) (by decide) (by decide) (by decide) (by decide) (fun i hi => rfl) (Nat.le_of_ble_eq_true rfl) (Nat.le_of_ble_eq_true rfl) dX8_takeFrom_175 (fun H locs hP hD hS => ?_)
  obtain ⟨g_9, eg_9⟩ : ∃ g, g = va_cpy h9 f9 (Int32.toNatClampNeg 0) (Int32.toNatClampNeg 0) (Int32.toNatClampNeg 8) := ⟨_, rfl⟩
  have hP : va_P D classes [(a, .inr (8, [.ref pb, .int db, .ref x1, .ref x2, .ref x3, .ref x4, .ref x5, .ref x6, .ref x7, .ref x8, .ref x9, .ref x10, .int sa])), (b, .inr (8, [.ref pb, .int db, .ref y1, .ref y2, .ref y3, .ref y4, .ref y5, .ref y6, .ref y7, .ref y8, .ref y9, .ref y10, .int sb])), (x1, .inl (cy 1, 36, .inl g_1)), (x2, .inl (cy 1, 6, .inl g_2)), (x3, .inl (cy 1, 6, .inl g_3)), (x4, .inl (cy 1, 6, .inl g_4)), (x5, .inl (cy 1, 6, .inl g_5)), (x6, .inl (cy 1, 8, .inl g_6)), (x7, .inl (cy 1, 8, .inl g_7)), (x8, .inl (cy 1, 8, .inl g_8)), (x9, .inl (cy 1, 8, .inl g_9)), (y1, .inl (cy 1, 36, .inl h1)), (y2, .inl (cy 1, 6, .inl h2)), (y3, .inl (cy 1, 6, .inl h3)), (y4, .inl (cy 1, 6, .inl h4)), (y5, .inl (cy 1, 6, .inl h5)), (y6, .inl (cy 1, 8, .inl h6)), (y7, .inl (cy 1, 8, .inl h7)), (y8, .inl (cy 1, 8, .inl h8)), (y9, .inl (cy 1, 8, .inl h9))] H := by rw [eg_9]; exact hP
  have hD : va_D A [(a, .inr (8, [.ref pb, .int db, .ref x1, .ref x2, .ref x3, .ref x4, .ref x5, .ref x6, .ref x7, .ref x8, .ref x9, .ref x10, .int sa])), (b, .inr (8, [.ref pb, .int db, .ref y1, .ref y2, .ref y3, .ref y4, .ref y5, .ref y6, .ref y7, .ref y8, .ref y9, .ref y10, .int sb])), (x1, .inl (cy 1, 36, .inl g_1)), (x2, .inl (cy 1, 6, .inl g_2)), (x3, .inl (cy 1, 6, .inl g_3)), (x4, .inl (cy 1, 6, .inl g_4)), (x5, .inl (cy 1, 6, .inl g_5)), (x6, .inl (cy 1, 8, .inl g_6)), (x7, .inl (cy 1, 8, .inl g_7)), (x8, .inl (cy 1, 8, .inl g_8)), (x9, .inl (cy 1, 8, .inl g_9)), (y1, .inl (cy 1, 36, .inl h1)), (y2, .inl (cy 1, 6, .inl h2)), (y3, .inl (cy 1, 6, .inl h3)), (y4, .inl (cy 1, 6, .inl h4)), (y5, .inl (cy 1, 6, .inl h5)), (y6, .inl (cy 1, 8, .inl h6)), (y7, .inl (cy 1, 8, .inl h7)), (y8, .inl (cy 1, 8, .inl h8)), (y9, .inl (cy 1, 8, .inl h9))] := by rw [eg_9]; exact hD
  have hP9 : va_P D classes [(a, .inr (8, [.ref pb, .int db, .ref x1, .ref x2, .ref x3, .ref x4, .ref x5, .ref x6, .ref x7, .ref x8, .ref x9, .ref x10, .int sa])), (b, .inr (8, [.ref pb, .int db, .ref y1, .ref y2, .ref y3, .ref y4, .ref y5, .ref y6, .ref y7, .ref y8, .ref y9, .ref y10, .int sb])), (x1, .inl (cy 1, 36, .inl g_1)), (x2, .inl (cy 1, 6, .inl g_2)), (x3, .inl (cy 1, 6, .inl g_3)), (x4, .inl (cy 1, 6, .inl g_4)), (x5, .inl (cy 1, 6, .inl g_5)), (x6, .inl (cy 1, 8, .inl g_6)), (x7, .inl (cy 1, 8, .inl g_7)), (x8, .inl (cy 1, 8, .inl g_8)), (x9, .inl (cy 1, 8, .inl g_9)), (y1, .inl (cy 1, 36, .inl h1)), (y2, .inl (cy 1, 6, .inl h2)), (y3, .inl (cy 1, 6, .inl h3)), (y4, .inl (cy 1, 6, .inl h4)), (y5, .inl (cy 1, 6, .inl h5)), (y6, .inl (cy 1, 8, .inl h6)), (y7, .inl (cy 1, 8, .inl h7)), (y8, .inl (cy 1, 8, .inl h8)), (y9, .inl (cy 1, 8, .inl h9))] H := subP hP [0, 1, 2, 3, 4, 5, 6, 7, 8, 9, 10, 11, 12, 13, 14, 15, 16, 17, 18, 19] rfl
  have hD9 : va_D A [(a, .inr (8, [.ref pb, .int db, .ref x1, .ref x2, .ref x3, .ref x4, .ref x5, .ref x6, .ref x7, .ref x8, .ref x9, .ref x10, .int sa])), (b, .inr (8, [.ref pb, .int db, .ref y1, .ref y2, .ref y3, .ref y4, .ref y5, .ref y6, .ref y7, .ref y8, .ref y9, .ref y10, .int sb])), (x1, .inl (cy 1, 36, .inl g_1)), (x2, .inl (cy 1, 6, .inl g_2)), (x3, .inl (cy 1, 6, .inl g_3)), (x4, .inl (cy 1, 6, .inl g_4)), (x5, .inl (cy 1, 6, .inl g_5)), (x6, .inl (cy 1, 8, .inl g_6)), (x7, .inl (cy 1, 8, .inl g_7)), (x8, .inl (cy 1, 8, .inl g_8)), (x9, .inl (cy 1, 8, .inl g_9)), (y1, .inl (cy 1, 36, .inl h1)), (y2, .inl (cy 1, 6, .inl h2)), (y3, .inl (cy 1, 6, .inl h3)), (y4, .inl (cy 1, 6, .inl h4)), (y5, .inl (cy 1, 6, .inl h5)), (y6, .inl (cy 1, 8, .inl h6)), (y7, .inl (cy 1, 8, .inl h7)), (y8, .inl (cy 1, 8, .inl h8)), (y9, .inl (cy 1, 8, .inl h9))] := hD.sub [0, 1, 2, 3, 4, 5, 6, 7, 8, 9, 10, 11, 12, 13, 14, 15, 16, 17, 18, 19] (by decide) rfl
  exact W.vret hx hb hr (fun t ht hW => ⟨⟨((g_1), (g_2), (g_3), (g_4), (g_5), (g_6), (g_7), (g_8), (g_9)), rfl, trivial, by rw [ht]; exact hP9, va_K.moved hW.alike hK, hD9⟩, hS.F ht⟩) hS.2.2 dX8_takeFrom_178
set_option maxHeartbeats 4000000 in
set_option maxRecDepth 100000 in
theorem c_begin (l : Launch) (D : va_G) (cy : Nat → ClassId) (z : Nat → Nat) (sz : Nat) (a : Nat) (pa : Nat) (b : Nat) (da : Int32) (sa : Int32) (x1 : Nat) (x2 : Nat) (x3 : Nat) (x4 : Nat) (x5 : Nat) (x6 : Nat) (x7 : Nat) (x8 : Nat) (x9 : Nat) (x10 : Nat) (f1 : Nat → Int32) (f2 : Nat → Int32) (f3 : Nat → Int32) (f4 : Nat → Int32) (f5 : Nat → Int32) (f6 : Nat → Int32) (f7 : Nat → Int32) (f8 : Nat → Int32) (f9 : Nat → Int32) : Met l yX8_begin (Cond.code yX8_begin cX8_begin 2 none :: gT) ({ frames := 2, cells := 0, slots := 0, locals := 400 } : Room) (va_Pc [.ref a, .ref b] (PRE D cy z [(a, .inr (8, [.ref pa, .int da, .ref x1, .ref x2, .ref x3, .ref x4, .ref x5, .ref x6, .ref x7, .ref x8, .ref x9, .ref x10, .int sa])), (x1, .inl (cy 1, 36, .inl f1)), (x2, .inl (cy 1, 6, .inl f2)), (x3, .inl (cy 1, 6, .inl f3)), (x4, .inl (cy 1, 6, .inl f4)), (x5, .inl (cy 1, 6, .inl f5)), (x6, .inl (cy 1, 8, .inl f6)), (x7, .inl (cy 1, 8, .inl f7)), (x8, .inl (cy 1, 8, .inl f8)), (x9, .inl (cy 1, 8, .inl f9))] sz)) (va_Qv (fun (u : Unit) => True) (BB D cy (va_A [(a, .inr (8, [.ref pa, .int da, .ref x1, .ref x2, .ref x3, .ref x4, .ref x5, .ref x6, .ref x7, .ref x8, .ref x9, .ref x10, .int sa])), (x1, .inl (cy 1, 36, .inl f1)), (x2, .inl (cy 1, 6, .inl f2)), (x3, .inl (cy 1, 6, .inl f3)), (x4, .inl (cy 1, 6, .inl f4)), (x5, .inl (cy 1, 6, .inl f5)), (x6, .inl (cy 1, 8, .inl f6)), (x7, .inl (cy 1, 8, .inl f7)), (x8, .inl (cy 1, 8, .inl f8)), (x9, .inl (cy 1, 8, .inl f9))] sz) (fun (u : Unit) => [(a, .inr (8, [.ref b, .int 0, .ref x1, .ref x2, .ref x3, .ref x4, .ref x5, .ref x6, .ref x7, .ref x8, .ref x9, .ref x10, .int sa])), (x1, .inl (cy 1, 36, .inl (fun _ => 0))), (x2, .inl (cy 1, 6, .inl (fun _ => 0))), (x3, .inl (cy 1, 6, .inl (fun _ => 0))), (x4, .inl (cy 1, 6, .inl (fun _ => 0))), (x5, .inl (cy 1, 6, .inl (fun _ => 0))), (x6, .inl (cy 1, 8, .inl (fun _ => 0))), (x7, .inl (cy 1, 8, .inl (fun _ => (-1)))), (x8, .inl (cy 1, 8, .inl (fun _ => 0))), (x9, .inl (cy 1, 8, .inl (fun _ => 0)))])) (va_A [(a, .inr (8, [.ref pa, .int da, .ref x1, .ref x2, .ref x3, .ref x4, .ref x5, .ref x6, .ref x7, .ref x8, .ref x9, .ref x10, .int sa])), (x1, .inl (cy 1, 36, .inl f1)), (x2, .inl (cy 1, 6, .inl f2)), (x3, .inl (cy 1, 6, .inl f3)), (x4, .inl (cy 1, 6, .inl f4)), (x5, .inl (cy 1, 6, .inl f5)), (x6, .inl (cy 1, 8, .inl f6)), (x7, .inl (cy 1, 8, .inl f7)), (x8, .inl (cy 1, 8, .inl f8)), (x9, .inl (cy 1, 8, .inl f9))] sz)) 0 0 (va_A [(a, .inr (8, [.ref pa, .int da, .ref x1, .ref x2, .ref x3, .ref x4, .ref x5, .ref x6, .ref x7, .ref x8, .ref x9, .ref x10, .int sa])), (x1, .inl (cy 1, 36, .inl f1)), (x2, .inl (cy 1, 6, .inl f2)), (x3, .inl (cy 1, 6, .inl f3)), (x4, .inl (cy 1, 6, .inl f4)), (x5, .inl (cy 1, 6, .inl f5)), (x6, .inl (cy 1, 8, .inl f6)), (x7, .inl (cy 1, 8, .inl f7)), (x8, .inl (cy 1, 8, .inl f8)), (x9, .inl (cy 1, 8, .inl f9))] sz) := by
  refine Met.ofW (cc := cX8_begin) (maxL := 2) (ret := none) (by decide) rfl ?_
  intro p e s m args below meth c s₁ B hml hv
  obtain ⟨rfl, hsz, hP, hK, hD0, hSD⟩ := hv
  have hx := B.exec
  have hb := B.bytes
  have hr := B.returns
  have hlocks := B.notSynchronized
  have hts : ∀ w ∈ gT, w.before _ s = true := fun w h => atoms_spec (ws := Cond.code yX8_begin cX8_begin 2 none :: gT) B.pre w (List.mem_cons_of_mem _ h)
  have hown : s.vm.findClass RX8 = some m.cls := findClass_of_methodNamed B.named
  subst hsz
  have hD := hD0.self (sz := s.heap.size)
  generalize hAe : va_A [(a, .inr (8, [.ref pa, .int da, .ref x1, .ref x2, .ref x3, .ref x4, .ref x5, .ref x6, .ref x7, .ref x8, .ref x9, .ref x10, .int sa])), (x1, .inl (cy 1, 36, .inl f1)), (x2, .inl (cy 1, 6, .inl f2)), (x3, .inl (cy 1, 6, .inl f3)), (x4, .inl (cy 1, 6, .inl f4)), (x5, .inl (cy 1, 6, .inl f5)), (x6, .inl (cy 1, 8, .inl f6)), (x7, .inl (cy 1, 8, .inl f7)), (x8, .inl (cy 1, 8, .inl f8)), (x9, .inl (cy 1, 8, .inl f9))] s.heap.size = A at hD hSD ⊢
  have hA : ∀ q : Nat, s.heap.size ≤ q → A q := fun q h => by rw [← hAe]; exact Or.inr h
  have hS : va_S A s.heap s.heap [] := va_S.rf
  have hl := lv_entry ([.ref a, .ref b]) (n := 2) (Nat.le_of_ble_eq_true rfl)
  rw [lg_entry_eq]
  generalize (lg_sl ([.ref a, .ref b]) ++ List.replicate (2 - (lg_sl ([.ref a, .ref b])).length) Slot.unset).toArray = ls at hl ⊢
  have hl : lv_has ls 2 [(0, .ref a), (1, .ref b)] := hl
  refine lv_aload_n hx hb dX8_begin_0 rfl (lv_at hl 0 rfl) ?_
  refine lv_aload_n hx hb dX8_begin_1 rfl (lv_at hl 1 rfl) ?_
  refine va_put (D := D) (ci := 8) (v := .ref b) (ty := .object "WonderParcels$Post") (C := RX8) (T := TX8) (N := 13) hx hb hts inX8 tyX8 tyX8_ok nmX8 hown hK hP hD hS 0 rfl rfl 0 (by decide) (hts _ tw_247) (fun _ h9 => h9) rfl (by decide +kernel) rfl rfl (Nat.le_of_ble_eq_true rfl) dX8_begin_2 (fun H locs hP hD hS => ?_)
  have hP : va_P D classes [(a, .inr (8, [.ref b, .int da, .ref x1, .ref x2, .ref x3, .ref x4, .ref x5, .ref x6, .ref x7, .ref x8, .ref x9, .ref x10, .int sa])), (x1, .inl (cy 1, 36, .inl f1)), (x2, .inl (cy 1, 6, .inl f2)), (x3, .inl (cy 1, 6, .inl f3)), (x4, .inl (cy 1, 6, .inl f4)), (x5, .inl (cy 1, 6, .inl f5)), (x6, .inl (cy 1, 8, .inl f6)), (x7, .inl (cy 1, 8, .inl f7)), (x8, .inl (cy 1, 8, .inl f8)), (x9, .inl (cy 1, 8, .inl f9))] H := hP
  have hD : va_D A [(a, .inr (8, [.ref b, .int da, .ref x1, .ref x2, .ref x3, .ref x4, .ref x5, .ref x6, .ref x7, .ref x8, .ref x9, .ref x10, .int sa])), (x1, .inl (cy 1, 36, .inl f1)), (x2, .inl (cy 1, 6, .inl f2)), (x3, .inl (cy 1, 6, .inl f3)), (x4, .inl (cy 1, 6, .inl f4)), (x5, .inl (cy 1, 6, .inl f5)), (x6, .inl (cy 1, 8, .inl f6)), (x7, .inl (cy 1, 8, .inl f7)), (x8, .inl (cy 1, 8, .inl f8)), (x9, .inl (cy 1, 8, .inl f9))] := hD
  refine lv_aload_n hx hb dX8_begin_5 rfl (lv_at hl 0 rfl) ?_
  refine lv_iconst (v := 0) hx hb dX8_begin_6 (by decide) ?_
  refine va_put (D := D) (ci := 8) (v := .int 0) (ty := .int) (C := RX8) (T := TX8) (N := 13) hx hb hts inX8 tyX8 tyX8_ok nmX8 hown hK hP hD hS 0 rfl rfl 1 (by decide) (hts _ tw_250) (fun _ h9 => h9) rfl (by decide +kernel) rfl rfl (Nat.le_of_ble_eq_true rfl) dX8_begin_7 (fun H locs hP hD hS => ?_)
  have hP : va_P D classes [(a, .inr (8, [.ref b, .int 0, .ref x1, .ref x2, .ref x3, .ref x4, .ref x5, .ref x6, .ref x7, .ref x8, .ref x9, .ref x10, .int sa])), (x1, .inl (cy 1, 36, .inl f1)), (x2, .inl (cy 1, 6, .inl f2)), (x3, .inl (cy 1, 6, .inl f3)), (x4, .inl (cy 1, 6, .inl f4)), (x5, .inl (cy 1, 6, .inl f5)), (x6, .inl (cy 1, 8, .inl f6)), (x7, .inl (cy 1, 8, .inl f7)), (x8, .inl (cy 1, 8, .inl f8)), (x9, .inl (cy 1, 8, .inl f9))] H := hP
  have hD : va_D A [(a, .inr (8, [.ref b, .int 0, .ref x1, .ref x2, .ref x3, .ref x4, .ref x5, .ref x6, .ref x7, .ref x8, .ref x9, .ref x10, .int sa])), (x1, .inl (cy 1, 36, .inl f1)), (x2, .inl (cy 1, 6, .inl f2)), (x3, .inl (cy 1, 6, .inl f3)), (x4, .inl (cy 1, 6, .inl f4)), (x5, .inl (cy 1, 6, .inl f5)), (x6, .inl (cy 1, 8, .inl f6)), (x7, .inl (cy 1, 8, .inl f7)), (x8, .inl (cy 1, 8, .inl f8)), (x9, .inl (cy 1, 8, .inl f9))] := hD
  refine lv_aload_n hx hb dX8_begin_10 rfl (lv_at hl 0 rfl) ?_
  refine va_get (D := D) (ci := 8) (v := .ref x1) (C := RX8) (T := TX8) (N := 13) hx hb hts inX8 hown hK hP 0 rfl rfl 2 (by decide) (hts _ tw_252) (fun _ h9 => h9) rfl dX8_begin_11 ?_
  refine lv_iconst (v := 0) hx hb dX8_begin_14 (by decide) ?_
  refine endv (wr := [(a, .inr (8, [.ref b, .int 0, .ref x1, .ref x2, .ref x3, .ref x4, .ref x5, .ref x6, .ref x7, .ref x8, .ref x9, .ref x10, .int sa])), (x2, .inl (cy 1, 6, .inl f2)), (x3, .inl (cy 1, 6, .inl f3)), (x4, .inl (cy 1, 6, .inl f4)), (x5, .inl (cy 1, 6, .inl f5)), (x6, .inl (cy 1, 8, .inl f6)), (x7, .inl (cy 1, 8, .inl f7)), (x8, .inl (cy 1, 8, .inl f8)), (x9, .inl (cy 1, 8, .inl f9))]) (va_runS (As := [.ref x1, .int 0]) (rest := []) ⟨hx, hb, hml, hown, hts⟩ (c_fill l D cy z H.size x1 36 f1 0 (by decide)) (va_cwS 2 hts (gS tw_246 tw_167 tw_9 tw_168) rfl rfl rfl (by decide +kernel) ⟨Nat.le_of_ble_eq_true rfl, Nat.le_of_ble_eq_true rfl⟩) (preS hP hD hK hSD hS hA [1] rfl (by decide)) rfl rfl hl.1 rfl (lv_room (Nat.le_of_ble_eq_true rfl)) dX8_begin_15 ⟨Nat.le_of_ble_eq_true rfl, Nat.le_of_ble_eq_true rfl⟩) hP hD hS hA [1] [0, 2, 3, 4, 5, 6, 7, 8, 9] rfl rfl (by decide) (by decide) (fun u_1 H locs hw_2 hP hD hS => ?_)
  have hP : va_P D classes [(a, .inr (8, [.ref b, .int 0, .ref x1, .ref x2, .ref x3, .ref x4, .ref x5, .ref x6, .ref x7, .ref x8, .ref x9, .ref x10, .int sa])), (x2, .inl (cy 1, 6, .inl f2)), (x3, .inl (cy 1, 6, .inl f3)), (x4, .inl (cy 1, 6, .inl f4)), (x5, .inl (cy 1, 6, .inl f5)), (x6, .inl (cy 1, 8, .inl f6)), (x7, .inl (cy 1, 8, .inl f7)), (x8, .inl (cy 1, 8, .inl f8)), (x9, .inl (cy 1, 8, .inl f9)), (x1, .inl (cy 1, 36, .inl (fun _ => 0)))] H := hP
  have hD : va_D A [(a, .inr (8, [.ref b, .int 0, .ref x1, .ref x2, .ref x3, .ref x4, .ref x5, .ref x6, .ref x7, .ref x8, .ref x9, .ref x10, .int sa])), (x2, .inl (cy 1, 6, .inl f2)), (x3, .inl (cy 1, 6, .inl f3)), (x4, .inl (cy 1, 6, .inl f4)), (x5, .inl (cy 1, 6, .inl f5)), (x6, .inl (cy 1, 8, .inl f6)), (x7, .inl (cy 1, 8, .inl f7)), (x8, .inl (cy 1, 8, .inl f8)), (x9, .inl (cy 1, 8, .inl f9)), (x1, .inl (cy 1, 36, .inl (fun _ => 0)))] := hD
  refine lv_aload_n hx hb dX8_begin_18 rfl (lv_at hl 0 rfl) ?_
  refine va_get (D := D) (ci := 8) (v := .ref x2) (C := RX8) (T := TX8) (N := 13) hx hb hts inX8 hown hK hP 0 rfl rfl 3 (by decide) (hts _ tw_253) (fun _ h9 => h9) rfl dX8_begin_19 ?_
  refine lv_iconst (v := 0) hx hb dX8_begin_22 (by decide) ?_
  refine endv (wr := [(a, .inr (8, [.ref b, .int 0, .ref x1, .ref x2, .ref x3, .ref x4, .ref x5, .ref x6, .ref x7, .ref x8, .ref x9, .ref x10, .int sa])), (x3, .inl (cy 1, 6, .inl f3)), (x4, .inl (cy 1, 6, .inl f4)), (x5, .inl (cy 1, 6, .inl f5)), (x6, .inl (cy 1, 8, .inl f6)), (x7, .inl (cy 1, 8, .inl f7)), (x8, .inl (cy 1, 8, .inl f8)), (x9, .inl (cy 1, 8, .inl f9)), (x1, .inl (cy 1, 36, .inl (fun _ => 0)))]) (va_runS (As := [.ref x2, .int 0]) (rest := []) ⟨hx, hb, hml, hown, hts⟩ (c_fill l D cy z H.size x2 6 f2 0 (by decide)) (va_cwS 2 hts (gS tw_246 tw_167 tw_9 tw_168) rfl rfl rfl (by decide +kernel) ⟨Nat.le_of_ble_eq_true rfl, Nat.le_of_ble_eq_true rfl⟩) (preS hP hD hK hSD hS hA [1] rfl (by decide)) rfl rfl hl.1 rfl (lv_room (Nat.le_of_ble_eq_true rfl)) dX8_begin_23 ⟨Nat.le_of_ble_eq_true rfl, Nat.le_of_ble_eq_true rfl⟩) hP hD hS hA [1] [0, 2, 3, 4, 5, 6, 7, 8, 9] rfl rfl (by decide) (by decide) (fun u_3 H locs hw_4 hP hD hS => ?_)
  have hP : va_P D classes [(a, .inr (8, [.ref b, .int 0, .ref x1, .ref x2, .ref x3, .ref x4, .ref x5, .ref x6, .ref x7, .ref x8, .ref x9, .ref x10, .int sa])), (x3, .inl (cy 1, 6, .inl f3)), (x4, .inl (cy 1, 6, .inl f4)), (x5, .inl (cy 1, 6, .inl f5)), (x6, .inl (cy 1, 8, .inl f6)), (x7, .inl (cy 1, 8, .inl f7)), (x8, .inl (cy 1, 8, .inl f8)), (x9, .inl (cy 1, 8, .inl f9)), (x1, .inl (cy 1, 36, .inl (fun _ => 0))), (x2, .inl (cy 1, 6, .inl (fun _ => 0)))] H := hP
  have hD : va_D A [(a, .inr (8, [.ref b, .int 0, .ref x1, .ref x2, .ref x3, .ref x4, .ref x5, .ref x6, .ref x7, .ref x8, .ref x9, .ref x10, .int sa])), (x3, .inl (cy 1, 6, .inl f3)), (x4, .inl (cy 1, 6, .inl f4)), (x5, .inl (cy 1, 6, .inl f5)), (x6, .inl (cy 1, 8, .inl f6)), (x7, .inl (cy 1, 8, .inl f7)), (x8, .inl (cy 1, 8, .inl f8)), (x9, .inl (cy 1, 8, .inl f9)), (x1, .inl (cy 1, 36, .inl (fun _ => 0))), (x2, .inl (cy 1, 6, .inl (fun _ => 0)))] := hD
  refine lv_aload_n hx hb dX8_begin_26 rfl (lv_at hl 0 rfl) ?_
  refine va_get (D := D) (ci := 8) (v := .ref x3) (C := RX8) (T := TX8) (N := 13) hx hb hts inX8 hown hK hP 0 rfl rfl 4 (by decide) (hts _ tw_257) (fun _ h9 => h9) rfl dX8_begin_27 ?_
  refine lv_iconst (v := 0) hx hb dX8_begin_30 (by decide) ?_
  refine endv (wr := [(a, .inr (8, [.ref b, .int 0, .ref x1, .ref x2, .ref x3, .ref x4, .ref x5, .ref x6, .ref x7, .ref x8, .ref x9, .ref x10, .int sa])), (x4, .inl (cy 1, 6, .inl f4)), (x5, .inl (cy 1, 6, .inl f5)), (x6, .inl (cy 1, 8, .inl f6)), (x7, .inl (cy 1, 8, .inl f7)), (x8, .inl (cy 1, 8, .inl f8)), (x9, .inl (cy 1, 8, .inl f9)), (x1, .inl (cy 1, 36, .inl (fun _ => 0))), (x2, .inl (cy 1, 6, .inl (fun _ => 0)))]) (va_runS (As := [.ref x3, .int 0]) (rest := []) ⟨hx, hb, hml, hown, hts⟩ (c_fill l D cy z H.size x3 6 f3 0 (by decide)) (va_cwS 2 hts (gS tw_246 tw_167 tw_9 tw_168) rfl rfl rfl (by decide +kernel) ⟨Nat.le_of_ble_eq_true rfl, Nat.le_of_ble_eq_true rfl⟩) (preS hP hD hK hSD hS hA [1] rfl (by decide)) rfl rfl hl.1 rfl (lv_room (Nat.le_of_ble_eq_true rfl)) dX8_begin_31 ⟨Nat.le_of_ble_eq_true rfl, Nat.le_of_ble_eq_true rfl⟩) hP hD hS hA [1] [0, 2, 3, 4, 5, 6, 7, 8, 9] rfl rfl (by decide) (by decide) (fun u_5 H locs hw_6 hP hD hS => ?_)
  have hP : va_P D classes [(a, .inr (8, [.ref b, .int 0, .ref x1, .ref x2, .ref x3, .ref x4, .ref x5, .ref x6, .ref x7, .ref x8, .ref x9, .ref x10, .int sa])), (x4, .inl (cy 1, 6, .inl f4)), (x5, .inl (cy 1, 6, .inl f5)), (x6, .inl (cy 1, 8, .inl f6)), (x7, .inl (cy 1, 8, .inl f7)), (x8, .inl (cy 1, 8, .inl f8)), (x9, .inl (cy 1, 8, .inl f9)), (x1, .inl (cy 1, 36, .inl (fun _ => 0))), (x2, .inl (cy 1, 6, .inl (fun _ => 0))), (x3, .inl (cy 1, 6, .inl (fun _ => 0)))] H := hP
  have hD : va_D A [(a, .inr (8, [.ref b, .int 0, .ref x1, .ref x2, .ref x3, .ref x4, .ref x5, .ref x6, .ref x7, .ref x8, .ref x9, .ref x10, .int sa])), (x4, .inl (cy 1, 6, .inl f4)), (x5, .inl (cy 1, 6, .inl f5)), (x6, .inl (cy 1, 8, .inl f6)), (x7, .inl (cy 1, 8, .inl f7)), (x8, .inl (cy 1, 8, .inl f8)), (x9, .inl (cy 1, 8, .inl f9)), (x1, .inl (cy 1, 36, .inl (fun _ => 0))), (x2, .inl (cy 1, 6, .inl (fun _ => 0))), (x3, .inl (cy 1, 6, .inl (fun _ => 0)))] := hD
  refine lv_aload_n hx hb dX8_begin_34 rfl (lv_at hl 0 rfl) ?_
  refine va_get (D := D) (ci := 8) (v := .ref x4) (C := RX8) (T := TX8) (N := 13) hx hb hts inX8 hown hK hP 0 rfl rfl 5 (by decide) (hts _ tw_260) (fun _ h9 => h9) rfl dX8_begin_35 ?_
  refine lv_iconst (v := 0) hx hb dX8_begin_38 (by decide) ?_
  refine endv (wr := [(a, .inr (8, [.ref b, .int 0, .ref x1, .ref x2, .ref x3, .ref x4, .ref x5, .ref x6, .ref x7, .ref x8, .ref x9, .ref x10, .int sa])), (x5, .inl (cy 1, 6, .inl f5)), (x6, .inl (cy 1, 8, .inl f6)), (x7, .inl (cy 1, 8, .inl f7)), (x8, .inl (cy 1, 8, .inl f8)), (x9, .inl (cy 1, 8, .inl f9)), (x1, .inl (cy 1, 36, .inl (fun _ => 0))), (x2, .inl (cy 1, 6, .inl (fun _ => 0))), (x3, .inl (cy 1, 6, .inl (fun _ => 0)))]) (va_runS (As := [.ref x4, .int 0]) (rest := []) ⟨hx, hb, hml, hown, hts⟩ (c_fill l D cy z H.size x4 6 f4 0 (by decide)) (va_cwS 2 hts (gS tw_246 tw_167 tw_9 tw_168) rfl rfl rfl (by decide +kernel) ⟨Nat.le_of_ble_eq_true rfl, Nat.le_of_ble_eq_true rfl⟩) (preS hP hD hK hSD hS hA [1] rfl (by decide)) rfl rfl hl.1 rfl (lv_room (Nat.le_of_ble_eq_true rfl)) dX8_begin_39 ⟨Nat.le_of_ble_eq_true rfl, Nat.le_of_ble_eq_true rfl⟩) hP hD hS hA [1] [0, 2, 3, 4, 5, 6, 7, 8, 9] rfl rfl (by decide) (by decide) (fun u_7 H locs hw_8 hP hD hS => ?_)
  have hP : va_P D classes [(a, .inr (8, [.ref b, .int 0, .ref x1, .ref x2, .ref x3, .ref x4, .ref x5, .ref x6, .ref x7, .ref x8, .ref x9, .ref x10, .int sa])), (x5, .inl (cy 1, 6, .inl f5)), (x6, .inl (cy 1, 8, .inl f6)), (x7, .inl (cy 1, 8, .inl f7)), (x8, .inl (cy 1, 8, .inl f8)), (x9, .inl (cy 1, 8, .inl f9)), (x1, .inl (cy 1, 36, .inl (fun _ => 0))), (x2, .inl (cy 1, 6, .inl (fun _ => 0))), (x3, .inl (cy 1, 6, .inl (fun _ => 0))), (x4, .inl (cy 1, 6, .inl (fun _ => 0)))] H := hP
  have hD : va_D A [(a, .inr (8, [.ref b, .int 0, .ref x1, .ref x2, .ref x3, .ref x4, .ref x5, .ref x6, .ref x7, .ref x8, .ref x9, .ref x10, .int sa])), (x5, .inl (cy 1, 6, .inl f5)), (x6, .inl (cy 1, 8, .inl f6)), (x7, .inl (cy 1, 8, .inl f7)), (x8, .inl (cy 1, 8, .inl f8)), (x9, .inl (cy 1, 8, .inl f9)), (x1, .inl (cy 1, 36, .inl (fun _ => 0))), (x2, .inl (cy 1, 6, .inl (fun _ => 0))), (x3, .inl (cy 1, 6, .inl (fun _ => 0))), (x4, .inl (cy 1, 6, .inl (fun _ => 0)))] := hD
  refine lv_aload_n hx hb dX8_begin_42 rfl (lv_at hl 0 rfl) ?_
  refine va_get (D := D) (ci := 8) (v := .ref x5) (C := RX8) (T := TX8) (N := 13) hx hb hts inX8 hown hK hP 0 rfl rfl 6 (by decide) (hts _ tw_262) (fun _ h9 => h9) rfl dX8_begin_43 ?_
  refine lv_iconst (v := 0) hx hb dX8_begin_46 (by decide) ?_
  refine endv (wr := [(a, .inr (8, [.ref b, .int 0, .ref x1, .ref x2, .ref x3, .ref x4, .ref x5, .ref x6, .ref x7, .ref x8, .ref x9, .ref x10, .int sa])), (x6, .inl (cy 1, 8, .inl f6)), (x7, .inl (cy 1, 8, .inl f7)), (x8, .inl (cy 1, 8, .inl f8)), (x9, .inl (cy 1, 8, .inl f9)), (x1, .inl (cy 1, 36, .inl (fun _ => 0))), (x2, .inl (cy 1, 6, .inl (fun _ => 0))), (x3, .inl (cy 1, 6, .inl (fun _ => 0))), (x4, .inl (cy 1, 6, .inl (fun _ => 0)))]) (va_runS (As := [.ref x5, .int 0]) (rest := []) ⟨hx, hb, hml, hown, hts⟩ (c_fill l D cy z H.size x5 6 f5 0 (by decide)) (va_cwS 2 hts (gS tw_246 tw_167 tw_9 tw_168) rfl rfl rfl (by decide +kernel) ⟨Nat.le_of_ble_eq_true rfl, Nat.le_of_ble_eq_true rfl⟩) (preS hP hD hK hSD hS hA [1] rfl (by decide)) rfl rfl hl.1 rfl (lv_room (Nat.le_of_ble_eq_true rfl)) dX8_begin_47 ⟨Nat.le_of_ble_eq_true rfl, Nat.le_of_ble_eq_true rfl⟩) hP hD hS hA [1] [0, 2, 3, 4, 5, 6, 7, 8, 9] rfl rfl (by decide) (by decide) (fun u_9 H locs hw_10 hP hD hS => ?_)
  have hP : va_P D classes [(a, .inr (8, [.ref b, .int 0, .ref x1, .ref x2, .ref x3, .ref x4, .ref x5, .ref x6, .ref x7, .ref x8, .ref x9, .ref x10, .int sa])), (x6, .inl (cy 1, 8, .inl f6)), (x7, .inl (cy 1, 8, .inl f7)), (x8, .inl (cy 1, 8, .inl f8)), (x9, .inl (cy 1, 8, .inl f9)), (x1, .inl (cy 1, 36, .inl (fun _ => 0))), (x2, .inl (cy 1, 6, .inl (fun _ => 0))), (x3, .inl (cy 1, 6, .inl (fun _ => 0))), (x4, .inl (cy 1, 6, .inl (fun _ => 0))), (x5, .inl (cy 1, 6, .inl (fun _ => 0)))] H := hP
  have hD : va_D A [(a, .inr (8, [.ref b, .int 0, .ref x1, .ref x2, .ref x3, .ref x4, .ref x5, .ref x6, .ref x7, .ref x8, .ref x9, .ref x10, .int sa])), (x6, .inl (cy 1, 8, .inl f6)), (x7, .inl (cy 1, 8, .inl f7)), (x8, .inl (cy 1, 8, .inl f8)), (x9, .inl (cy 1, 8, .inl f9)), (x1, .inl (cy 1, 36, .inl (fun _ => 0))), (x2, .inl (cy 1, 6, .inl (fun _ => 0))), (x3, .inl (cy 1, 6, .inl (fun _ => 0))), (x4, .inl (cy 1, 6, .inl (fun _ => 0))), (x5, .inl (cy 1, 6, .inl (fun _ => 0)))] := hD
  refine lv_aload_n hx hb dX8_begin_50 rfl (lv_at hl 0 rfl) ?_
  refine va_get (D := D) (ci := 8) (v := .ref x6) (C := RX8) (T := TX8) (N := 13) hx hb hts inX8 hown hK hP 0 rfl rfl 7 (by decide) (hts _ tw_265) (fun _ h9 => h9) rfl dX8_begin_51 ?_
  refine lv_iconst (v := 0) hx hb dX8_begin_54 (by decide) ?_
  refine endv (wr := [(a, .inr (8, [.ref b, .int 0, .ref x1, .ref x2, .ref x3, .ref x4, .ref x5, .ref x6, .ref x7, .ref x8, .ref x9, .ref x10, .int sa])), (x7, .inl (cy 1, 8, .inl f7)), (x8, .inl (cy 1, 8, .inl f8)), (x9, .inl (cy 1, 8, .inl f9)), (x1, .inl (cy 1, 36, .inl (fun _ => 0))), (x2, .inl (cy 1, 6, .inl (fun _ => 0))), (x3, .inl (cy 1, 6, .inl (fun _ => 0))), (x4, .inl (cy 1, 6, .inl (fun _ => 0))), (x5, .inl (cy 1, 6, .inl (fun _ => 0)))]) (va_runS (As := [.ref x6, .int 0]) (rest := []) ⟨hx, hb, hml, hown, hts⟩ (c_fill l D cy z H.size x6 8 f6 0 (by decide)) (va_cwS 2 hts (gS tw_246 tw_167 tw_9 tw_168) rfl rfl rfl (by decide +kernel) ⟨Nat.le_of_ble_eq_true rfl, Nat.le_of_ble_eq_true rfl⟩) (preS hP hD hK hSD hS hA [1] rfl (by decide)) rfl rfl hl.1 rfl (lv_room (Nat.le_of_ble_eq_true rfl)) dX8_begin_55 ⟨Nat.le_of_ble_eq_true rfl, Nat.le_of_ble_eq_true rfl⟩) hP hD hS hA [1] [0, 2, 3, 4, 5, 6, 7, 8, 9] rfl rfl (by decide) (by decide) (fun u_11 H locs hw_12 hP hD hS => ?_)
  have hP : va_P D classes [(a, .inr (8, [.ref b, .int 0, .ref x1, .ref x2, .ref x3, .ref x4, .ref x5, .ref x6, .ref x7, .ref x8, .ref x9, .ref x10, .int sa])), (x7, .inl (cy 1, 8, .inl f7)), (x8, .inl (cy 1, 8, .inl f8)), (x9, .inl (cy 1, 8, .inl f9)), (x1, .inl (cy 1, 36, .inl (fun _ => 0))), (x2, .inl (cy 1, 6, .inl (fun _ => 0))), (x3, .inl (cy 1, 6, .inl (fun _ => 0))), (x4, .inl (cy 1, 6, .inl (fun _ => 0))), (x5, .inl (cy 1, 6, .inl (fun _ => 0))), (x6, .inl (cy 1, 8, .inl (fun _ => 0)))] H := hP
  have hD : va_D A [(a, .inr (8, [.ref b, .int 0, .ref x1, .ref x2, .ref x3, .ref x4, .ref x5, .ref x6, .ref x7, .ref x8, .ref x9, .ref x10, .int sa])), (x7, .inl (cy 1, 8, .inl f7)), (x8, .inl (cy 1, 8, .inl f8)), (x9, .inl (cy 1, 8, .inl f9)), (x1, .inl (cy 1, 36, .inl (fun _ => 0))), (x2, .inl (cy 1, 6, .inl (fun _ => 0))), (x3, .inl (cy 1, 6, .inl (fun _ => 0))), (x4, .inl (cy 1, 6, .inl (fun _ => 0))), (x5, .inl (cy 1, 6, .inl (fun _ => 0))), (x6, .inl (cy 1, 8, .inl (fun _ => 0)))] := hD
  refine lv_aload_n hx hb dX8_begin_58 rfl (lv_at hl 0 rfl) ?_
  refine va_get (D := D) (ci := 8) (v := .ref x7) (C := RX8) (T := TX8) (N := 13) hx hb hts inX8 hown hK hP 0 rfl rfl 8 (by decide) (hts _ tw_268) (fun _ h9 => h9) rfl dX8_begin_59 ?_
  refine lv_iconst (v := (-1)) hx hb dX8_begin_62 (by decide) ?_
  refine endv (wr := [(a, .inr (8, [.ref b, .int 0, .ref x1, .ref x2, .ref x3, .ref x4, .ref x5, .ref x6, .ref x7, .ref x8, .ref x9, .ref x10, .int sa])), (x8, .inl (cy 1, 8, .inl f8)), (x9, .inl (cy 1, 8, .inl f9)), (x1, .inl (cy 1, 36, .inl (fun _ => 0))), (x2, .inl (cy 1, 6, .inl (fun _ => 0))), (x3, .inl (cy 1, 6, .inl (fun _ => 0))), (x4, .inl (cy 1, 6, .inl (fun _ => 0))), (x5, .inl (cy 1, 6, .inl (fun _ => 0))), (x6, .inl (cy 1, 8, .inl (fun _ => 0)))]) (va_runS (As := [.ref x7, .int (-1)]) (rest := []) ⟨hx, hb, hml, hown, hts⟩ (c_fill l D cy z H.size x7 8 f7 (-1) (by decide)) (va_cwS 2 hts (gS tw_246 tw_167 tw_9 tw_168) rfl rfl rfl (by decide +kernel) ⟨Nat.le_of_ble_eq_true rfl, Nat.le_of_ble_eq_true rfl⟩) (preS hP hD hK hSD hS hA [1] rfl (by decide)) rfl rfl hl.1 rfl (lv_room (Nat.le_of_ble_eq_true rfl)) dX8_begin_63 ⟨Nat.le_of_ble_eq_true rfl, Nat.le_of_ble_eq_true rfl⟩) hP hD hS hA [1] [0, 2, 3, 4, 5, 6, 7, 8, 9] rfl rfl (by decide) (by decide) (fun u_13 H locs hw_14 hP hD hS => ?_)
  have hP : va_P D classes [(a, .inr (8, [.ref b, .int 0, .ref x1, .ref x2, .ref x3, .ref x4, .ref x5, .ref x6, .ref x7, .ref x8, .ref x9, .ref x10, .int sa])), (x8, .inl (cy 1, 8, .inl f8)), (x9, .inl (cy 1, 8, .inl f9)), (x1, .inl (cy 1, 36, .inl (fun _ => 0))), (x2, .inl (cy 1, 6, .inl (fun _ => 0))), (x3, .inl (cy 1, 6, .inl (fun _ => 0))), (x4, .inl (cy 1, 6, .inl (fun _ => 0))), (x5, .inl (cy 1, 6, .inl (fun _ => 0))), (x6, .inl (cy 1, 8, .inl (fun _ => 0))), (x7, .inl (cy 1, 8, .inl (fun _ => (-1))))] H := hP
  have hD : va_D A [(a, .inr (8, [.ref b, .int 0, .ref x1, .ref x2, .ref x3, .ref x4, .ref x5, .ref x6, .ref x7, .ref x8, .ref x9, .ref x10, .int sa])), (x8, .inl (cy 1, 8, .inl f8)), (x9, .inl (cy 1, 8, .inl f9)), (x1, .inl (cy 1, 36, .inl (fun _ => 0))), (x2, .inl (cy 1, 6, .inl (fun _ => 0))), (x3, .inl (cy 1, 6, .inl (fun _ => 0))), (x4, .inl (cy 1, 6, .inl (fun _ => 0))), (x5, .inl (cy 1, 6, .inl (fun _ => 0))), (x6, .inl (cy 1, 8, .inl (fun _ => 0))), (x7, .inl (cy 1, 8, .inl (fun _ => (-1))))] := hD
  refine lv_aload_n hx hb dX8_begin_66 rfl (lv_at hl 0 rfl) ?_
  refine va_get (D := D) (ci := 8) (v := .ref x8) (C := RX8) (T := TX8) (N := 13) hx hb hts inX8 hown hK hP 0 rfl rfl 9 (by decide) (hts _ tw_271) (fun _ h9 => h9) rfl dX8_begin_67 ?_
  refine lv_iconst (v := 0) hx hb dX8_begin_70 (by decide) ?_
  refine endv (wr := [(a, .inr (8, [.ref b, .int 0, .ref x1, .ref x2, .ref x3, .ref x4, .ref x5, .ref x6, .ref x7, .ref x8, .ref x9, .ref x10, .int sa])), (x9, .inl (cy 1, 8, .inl f9)), (x1, .inl (cy 1, 36, .inl (fun _ => 0))), (x2, .inl (cy 1, 6, .inl (fun _ => 0))), (x3, .inl (cy 1, 6, .inl (fun _ => 0))), (x4, .inl (cy 1, 6, .inl (fun _ => 0))), (x5, .inl (cy 1, 6, .inl (fun _ => 0))), (x6, .inl (cy 1, 8, .inl (fun _ => 0))), (x7, .inl (cy 1, 8, .inl (fun _ => (-1))))]) (va_runS (As := [.ref x8, .int 0]) (rest := []) ⟨hx, hb, hml, hown, hts⟩ (c_fill l D cy z H.size x8 8 f8 0 (by decide)) (va_cwS 2 hts (gS tw_246 tw_167 tw_9 tw_168) rfl rfl rfl (by decide +kernel) ⟨Nat.le_of_ble_eq_true rfl, Nat.le_of_ble_eq_true rfl⟩) (preS hP hD hK hSD hS hA [1] rfl (by decide)) rfl rfl hl.1 rfl (lv_room (Nat.le_of_ble_eq_true rfl)) dX8_begin_71 ⟨Nat.le_of_ble_eq_true rfl, Nat.le_of_ble_eq_true rfl⟩) hP hD hS hA [1] [0, 2, 3, 4, 5, 6, 7, 8, 9] rfl rfl (by decide) (by decide) (fun u_15 H locs hw_16 hP hD hS => ?_)
  have hP : va_P D classes [(a, .inr (8, [.ref b, .int 0, .ref x1, .ref x2, .ref x3, .ref x4, .ref x5, .ref x6, .ref x7, .ref x8, .ref x9, .ref x10, .int sa])), (x9, .inl (cy 1, 8, .inl f9)), (x1, .inl (cy 1, 36, .inl (fun _ => 0))), (x2, .inl (cy 1, 6, .inl (fun _ => 0))), (x3, .inl (cy 1, 6, .inl (fun _ => 0))), (x4, .inl (cy 1, 6, .inl (fun _ => 0))), (x5, .inl (cy 1, 6, .inl (fun _ => 0))), (x6, .inl (cy 1, 8, .inl (fun _ => 0))), (x7, .inl (cy 1, 8, .inl (fun _ => (-1)))), (x8, .inl (cy 1, 8, .inl (fun _ => 0)))] H := hP
  have hD : va_D A [(a, .inr (8, [.ref b, .int 0, .ref x1, .ref x2, .ref x3, .ref x4, .ref x5, .ref x6, .ref x7, .ref x8, .ref x9, .ref x10, .int sa])), (x9, .inl (cy 1, 8, .inl f9)), (x1, .inl (cy 1, 36, .inl (fun _ => 0))), (x2, .inl (cy 1, 6, .inl (fun _ => 0))), (x3, .inl (cy 1, 6, .inl (fun _ => 0))), (x4, .inl (cy 1, 6, .inl (fun _ => 0))), (x5, .inl (cy 1, 6, .inl (fun _ => 0))), (x6, .inl (cy 1, 8, .inl (fun _ => 0))), (x7, .inl (cy 1, 8, .inl (fun _ => (-1)))), (x8, .inl (cy 1, 8, .inl (fun _ => 0)))] := hD
  refine lv_aload_n hx hb dX8_begin_74 rfl (lv_at hl 0 rfl) ?_
  refine va_get (D := D) (ci := 8) (v := .ref x9) (C := RX8) (T := TX8) (N := 13) hx hb hts inX8 hown hK hP 0 rfl rfl 10 (by decide) (hts _ tw_273) (fun _ h9 => h9) rfl dX8_begin_75 ?_
  refine lv_iconst (v := 0) hx hb dX8_begin_78 (by decide) ?_
  refine endv (wr := [(a, .inr (8, [.ref b, .int 0, .ref x1, .ref x2, .ref x3, .ref x4, .ref x5, .ref x6, .ref x7, .ref x8, .ref x9, .ref x10, .int sa])), (x1, .inl (cy 1, 36, .inl (fun _ => 0))), (x2, .inl (cy 1, 6, .inl (fun _ => 0))), (x3, .inl (cy 1, 6, .inl (fun _ => 0))), (x4, .inl (cy 1, 6, .inl (fun _ => 0))), (x5, .inl (cy 1, 6, .inl (fun _ => 0))), (x6, .inl (cy 1, 8, .inl (fun _ => 0))), (x7, .inl (cy 1, 8, .inl (fun _ => (-1)))), (x8, .inl (cy 1, 8, .inl (fun _ => 0)))]) (va_runS (As := [.ref x9, .int 0]) (rest := []) ⟨hx, hb, hml, hown, hts⟩ (c_fill l D cy z H.size x9 8 f9 0 (by decide)) (va_cwS 2 hts (gS tw_246 tw_167 tw_9 tw_168) rfl rfl rfl (by decide +kernel) ⟨Nat.le_of_ble_eq_true rfl, Nat.le_of_ble_eq_true rfl⟩) (preS hP hD hK hSD hS hA [1] rfl (by decide)) rfl rfl hl.1 rfl (lv_room (Nat.le_of_ble_eq_true rfl)) dX8_begin_79 ⟨Nat.le_of_ble_eq_true rfl, Nat.le_of_ble_eq_true rfl⟩) hP hD hS hA [1] [0, 2, 3, 4, 5, 6, 7, 8, 9] rfl rfl (by decide) (by decide) (fun u_17 H locs hw_18 hP hD hS => ?_)
  have hP : va_P D classes [(a, .inr (8, [.ref b, .int 0, .ref x1, .ref x2, .ref x3, .ref x4, .ref x5, .ref x6, .ref x7, .ref x8, .ref x9, .ref x10, .int sa])), (x1, .inl (cy 1, 36, .inl (fun _ => 0))), (x2, .inl (cy 1, 6, .inl (fun _ => 0))), (x3, .inl (cy 1, 6, .inl (fun _ => 0))), (x4, .inl (cy 1, 6, .inl (fun _ => 0))), (x5, .inl (cy 1, 6, .inl (fun _ => 0))), (x6, .inl (cy 1, 8, .inl (fun _ => 0))), (x7, .inl (cy 1, 8, .inl (fun _ => (-1)))), (x8, .inl (cy 1, 8, .inl (fun _ => 0))), (x9, .inl (cy 1, 8, .inl (fun _ => 0)))] H := hP
  have hD : va_D A [(a, .inr (8, [.ref b, .int 0, .ref x1, .ref x2, .ref x3, .ref x4, .ref x5, .ref x6, .ref x7, .ref x8, .ref x9, .ref x10, .int sa])), (x1, .inl (cy 1, 36, .inl (fun _ => 0))), (x2, .inl (cy 1, 6, .inl (fun _ => 0))), (x3, .inl (cy 1, 6, .inl (fun _ => 0))), (x4, .inl (cy 1, 6, .inl (fun _ => 0))), (x5, .inl (cy 1, 6, .inl (fun _ => 0))), (x6, .inl (cy 1, 8, .inl (fun _ => 0))), (x7, .inl (cy 1, 8, .inl (fun _ => (-1)))), (x8, .inl (cy 1, 8, .inl (fun _ => 0))), (x9, .inl (cy 1, 8, .inl (fun _ => 0)))] := hD
  have hP9 : va_P D classes [(a, .inr (8, [.ref b, .int 0, .ref x1, .ref x2, .ref x3, .ref x4, .ref x5, .ref x6, .ref x7, .ref x8, .ref x9, .ref x10, .int sa])), (x1, .inl (cy 1, 36, .inl (fun _ => 0))), (x2, .inl (cy 1, 6, .inl (fun _ => 0))), (x3, .inl (cy 1, 6, .inl (fun _ => 0))), (x4, .inl (cy 1, 6, .inl (fun _ => 0))), (x5, .inl (cy 1, 6, .inl (fun _ => 0))), (x6, .inl (cy 1, 8, .inl (fun _ => 0))), (x7, .inl (cy 1, 8, .inl (fun _ => (-1)))), (x8, .inl (cy 1, 8, .inl (fun _ => 0))), (x9, .inl (cy 1, 8, .inl (fun _ => 0)))] H := subP hP [0, 1, 2, 3, 4, 5, 6, 7, 8, 9] rfl
  have hD9 : va_D A [(a, .inr (8, [.ref b, .int 0, .ref x1, .ref x2, .ref x3, .ref x4, .ref x5, .ref x6, .ref x7, .ref x8, .ref x9, .ref x10, .int sa])), (x1, .inl (cy 1, 36, .inl (fun _ => 0))), (x2, .inl (cy 1, 6, .inl (fun _ => 0))), (x3, .inl (cy 1, 6, .inl (fun _ => 0))), (x4, .inl (cy 1, 6, .inl (fun _ => 0))), (x5, .inl (cy 1, 6, .inl (fun _ => 0))), (x6, .inl (cy 1, 8, .inl (fun _ => 0))), (x7, .inl (cy 1, 8, .inl (fun _ => (-1)))), (x8, .inl (cy 1, 8, .inl (fun _ => 0))), (x9, .inl (cy 1, 8, .inl (fun _ => 0)))] := hD.sub [0, 1, 2, 3, 4, 5, 6, 7, 8, 9] (by decide) rfl
  exact W.vret hx hb hr (fun t ht hW => ⟨⟨(), rfl, trivial, by rw [ht]; exact hP9, va_K.moved hW.alike hK, hD9⟩, hS.F ht⟩) hS.2.2 dX8_begin_82
set_option maxHeartbeats 4000000 in
set_option maxRecDepth 100000 in
theorem c_W_whichAreOpen (l : Launch) (D : va_G) (cy : Nat → ClassId) (z : Nat → Nat) (sz : Nat) (a : Nat) (x1 : Nat) (x2 : Nat) (x3 : Nat) (x4 : Nat) (x5 : Nat) (x6 : Nat) (x7 : Nat) (x8 : Nat) (x9 : Nat) (x10 : Nat) (pt : Nat) (p1 : Nat) (p2 : Nat) (p3 : Nat) (p4 : Nat) (p5 : Nat) (da : Int32) (sa : Int32) : Met l yX8_whichAreOpen (Cond.code yX8_whichAreOpen cX8_whichAreOpen 3 (some .int) :: gT) ({ frames := 0, cells := 0, slots := 0, locals := 200 } : Room) (va_Pc [.ref a] (PRE D cy z [(a, .inr (8, [.ref pt, .int da, .ref x1, .ref x2, .ref x3, .ref x4, .ref x5, .ref x6, .ref x7, .ref x8, .ref x9, .ref x10, .int sa])), (pt, .inr (3, [.ref p1, .ref p2, .ref p3, .ref p4, .ref p5, .int 0, .int 5, .int 0, .int 0])), (p2, .inl (cy 1, 4, .inl (fun _ => 0)))] sz)) (va_Qi (fun (r : Int32) (u : Unit) => r = 0) (BB D cy (va_A [(a, .inr (8, [.ref pt, .int da, .ref x1, .ref x2, .ref x3, .ref x4, .ref x5, .ref x6, .ref x7, .ref x8, .ref x9, .ref x10, .int sa])), (pt, .inr (3, [.ref p1, .ref p2, .ref p3, .ref p4, .ref p5, .int 0, .int 5, .int 0, .int 0])), (p2, .inl (cy 1, 4, .inl (fun _ => 0)))] sz) (fun (u : Unit) => [(a, .inr (8, [.ref pt, .int da, .ref x1, .ref x2, .ref x3, .ref x4, .ref x5, .ref x6, .ref x7, .ref x8, .ref x9, .ref x10, .int sa])), (pt, .inr (3, [.ref p1, .ref p2, .ref p3, .ref p4, .ref p5, .int 0, .int 5, .int 0, .int 0])), (p2, .inl (cy 1, 4, .inl (fun _ => 0)))])) (va_A [(a, .inr (8, [.ref pt, .int da, .ref x1, .ref x2, .ref x3, .ref x4, .ref x5, .ref x6, .ref x7, .ref x8, .ref x9, .ref x10, .int sa])), (pt, .inr (3, [.ref p1, .ref p2, .ref p3, .ref p4, .ref p5, .int 0, .int 5, .int 0, .int 0])), (p2, .inl (cy 1, 4, .inl (fun _ => 0)))] sz)) 0 0 (va_A [(a, .inr (8, [.ref pt, .int da, .ref x1, .ref x2, .ref x3, .ref x4, .ref x5, .ref x6, .ref x7, .ref x8, .ref x9, .ref x10, .int sa])), (pt, .inr (3, [.ref p1, .ref p2, .ref p3, .ref p4, .ref p5, .int 0, .int 5, .int 0, .int 0])), (p2, .inl (cy 1, 4, .inl (fun _ => 0)))] sz) := by
  refine Met.ofW (cc := cX8_whichAreOpen) (maxL := 3) (ret := (some .int)) (by decide) rfl ?_
  intro p e s m args below meth c s₁ B hml hv
  obtain ⟨rfl, hsz, hP, hK, hD0, hSD⟩ := hv
  have hx := B.exec
  have hb := B.bytes
  have hr := B.returns
  have hlocks := B.notSynchronized
  have hts : ∀ w ∈ gT, w.before _ s = true := fun w h => atoms_spec (ws := Cond.code yX8_whichAreOpen cX8_whichAreOpen 3 (some .int) :: gT) B.pre w (List.mem_cons_of_mem _ h)
  have hown : s.vm.findClass RX8 = some m.cls := findClass_of_methodNamed B.named
  subst hsz
  have hD := hD0.self (sz := s.heap.size)
  generalize hAe : va_A [(a, .inr (8, [.ref pt, .int da, .ref x1, .ref x2, .ref x3, .ref x4, .ref x5, .ref x6, .ref x7, .ref x8, .ref x9, .ref x10, .int sa])), (pt, .inr (3, [.ref p1, .ref p2, .ref p3, .ref p4, .ref p5, .int 0, .int 5, .int 0, .int 0])), (p2, .inl (cy 1, 4, .inl (fun _ => 0)))] s.heap.size = A at hD hSD ⊢
  have hA : ∀ q : Nat, s.heap.size ≤ q → A q := fun q h => by rw [← hAe]; exact Or.inr h
  have hS : va_S A s.heap s.heap [] := va_S.rf
  have hl := lv_entry ([.ref a]) (n := 3) (Nat.le_of_ble_eq_true rfl)
  rw [lg_entry_eq]
  generalize (lg_sl ([.ref a]) ++ List.replicate (3 - (lg_sl ([.ref a])).length) Slot.unset).toArray = ls at hl ⊢
  have hl : lv_has ls 3 [(0, .ref a)] := hl
  refine lv_iconst (v := 0) hx hb dX8_whichAreOpen_0 (by decide) ?_
  refine lv_istore_n (lv' := [(1, .int 0), (0, .ref a)]) hx hb dX8_whichAreOpen_1 rfl hl (by decide) rfl (fun ls hl => ?_)
  refine lv_iconst (v := 0) hx hb dX8_whichAreOpen_2 (by decide) ?_
  refine lv_istore_n (lv' := [(2, .int 0), (1, .int 0), (0, .ref a)]) hx hb dX8_whichAreOpen_3 rfl hl (by decide) rfl (fun ls hl => ?_)
  refine lv_iload_n hx hb dX8_whichAreOpen_4 rfl (lv_at hl 0 rfl) ?_
  refine lv_aload_n hx hb dX8_whichAreOpen_5 rfl (lv_at hl 2 rfl) ?_
  refine va_get (D := D) (ci := 8) (v := .ref pt) (C := RX8) (T := TX8) (N := 13) hx hb hts inX8 hown hK hP 0 rfl rfl 0 (by decide) (hts _ tw_247) (fun _ h9 => h9) rfl dX8_whichAreOpen_6 ?_
  refine va_getN (D := D) (ci := 3) (v := .ref p2) (C := RX3) (T := TX3) (N := 9) hx hb hts inX3 hown hK hP 1 rfl rfl 1 (by decide) (hSD.nest tn_203) (fun _ h9 => h9) rfl dX8_whichAreOpen_9 ?_
  refine lv_iconst (v := 2) hx hb dX8_whichAreOpen_12 (by decide) ?_
  refine va_iald hx hb hK hP 2 1 rfl rfl (vp_in_nI (n := 2) (N := 4) (by decide) (by decide)) dX8_whichAreOpen_13 ?_
  refine tI (y := 0) (rfl) ?_
  refine lv_icmp_ge (tgt := 37) hx hb dX8_whichAreOpen_14 (by decide) (fun _ => ?_) (fun c9 => absurd (by decide) c9)
  refine lv_iload_n hx hb dX8_whichAreOpen_37 rfl (lv_at hl 1 rfl) ?_
  have hP9 : va_P D classes [(a, .inr (8, [.ref pt, .int da, .ref x1, .ref x2, .ref x3, .ref x4, .ref x5, .ref x6, .ref x7, .ref x8, .ref x9, .ref x10, .int sa])), (pt, .inr (3, [.ref p1, .ref p2, .ref p3, .ref p4, .ref p5, .int 0, .int 5, .int 0, .int 0])), (p2, .inl (cy 1, 4, .inl (fun _ => 0)))] s.heap := subP hP [0, 1, 2] rfl
  have hD9 : va_D A [(a, .inr (8, [.ref pt, .int da, .ref x1, .ref x2, .ref x3, .ref x4, .ref x5, .ref x6, .ref x7, .ref x8, .ref x9, .ref x10, .int sa])), (pt, .inr (3, [.ref p1, .ref p2, .ref p3, .ref p4, .ref p5, .int 0, .int 5, .int 0, .int 0])), (p2, .inl (cy 1, 4, .inl (fun _ => 0)))] := hD.sub [0, 1, 2] (by decide) rfl
  exact W.iret (v := 0) hx hb hr (fun t ht hW => ⟨⟨0, (), rfl, rfl, by rw [ht]; exact hP9, va_K.moved hW.alike hK, hD9⟩, hS.F ht⟩) hS.2.2 dX8_whichAreOpen_38
set_option maxHeartbeats 4000000 in
set_option maxRecDepth 100000 in
theorem c_W_whichAreNothing (l : Launch) (D : va_G) (cy : Nat → ClassId) (z : Nat → Nat) (sz : Nat) (a : Nat) (x1 : Nat) (x2 : Nat) (x3 : Nat) (x4 : Nat) (x5 : Nat) (x6 : Nat) (x7 : Nat) (x8 : Nat) (x9 : Nat) (x10 : Nat) (pt : Nat) (p1 : Nat) (p2 : Nat) (p3 : Nat) (p4 : Nat) (p5 : Nat) (da : Int32) (sa : Int32) : Met l yX8_whichAreNothing (Cond.code yX8_whichAreNothing cX8_whichAreNothing 3 (some .int) :: gT) ({ frames := 0, cells := 0, slots := 0, locals := 200 } : Room) (va_Pc [.ref a] (PRE D cy z [(a, .inr (8, [.ref pt, .int da, .ref x1, .ref x2, .ref x3, .ref x4, .ref x5, .ref x6, .ref x7, .ref x8, .ref x9, .ref x10, .int sa])), (pt, .inr (3, [.ref p1, .ref p2, .ref p3, .ref p4, .ref p5, .int 0, .int 5, .int 0, .int 0])), (p2, .inl (cy 1, 4, .inl (fun _ => 0)))] sz)) (va_Qi (fun (r : Int32) (u : Unit) => r = 0) (BB D cy (va_A [(a, .inr (8, [.ref pt, .int da, .ref x1, .ref x2, .ref x3, .ref x4, .ref x5, .ref x6, .ref x7, .ref x8, .ref x9, .ref x10, .int sa])), (pt, .inr (3, [.ref p1, .ref p2, .ref p3, .ref p4, .ref p5, .int 0, .int 5, .int 0, .int 0])), (p2, .inl (cy 1, 4, .inl (fun _ => 0)))] sz) (fun (u : Unit) => [(a, .inr (8, [.ref pt, .int da, .ref x1, .ref x2, .ref x3, .ref x4, .ref x5, .ref x6, .ref x7, .ref x8, .ref x9, .ref x10, .int sa])), (pt, .inr (3, [.ref p1, .ref p2, .ref p3, .ref p4, .ref p5, .int 0, .int 5, .int 0, .int 0])), (p2, .inl (cy 1, 4, .inl (fun _ => 0)))])) (va_A [(a, .inr (8, [.ref pt, .int da, .ref x1, .ref x2, .ref x3, .ref x4, .ref x5, .ref x6, .ref x7, .ref x8, .ref x9, .ref x10, .int sa])), (pt, .inr (3, [.ref p1, .ref p2, .ref p3, .ref p4, .ref p5, .int 0, .int 5, .int 0, .int 0])), (p2, .inl (cy 1, 4, .inl (fun _ => 0)))] sz)) 0 0 (va_A [(a, .inr (8, [.ref pt, .int da, .ref x1, .ref x2, .ref x3, .ref x4, .ref x5, .ref x6, .ref x7, .ref x8, .ref x9, .ref x10, .int sa])), (pt, .inr (3, [.ref p1, .ref p2, .ref p3, .ref p4, .ref p5, .int 0, .int 5, .int 0, .int 0])), (p2, .inl (cy 1, 4, .inl (fun _ => 0)))] sz) := by
  refine Met.ofW (cc := cX8_whichAreNothing) (maxL := 3) (ret := (some .int)) (by decide) rfl ?_
  intro p e s m args below meth c s₁ B hml hv
  obtain ⟨rfl, hsz, hP, hK, hD0, hSD⟩ := hv
  have hx := B.exec
  have hb := B.bytes
  have hr := B.returns
  have hlocks := B.notSynchronized
  have hts : ∀ w ∈ gT, w.before _ s = true := fun w h => atoms_spec (ws := Cond.code yX8_whichAreNothing cX8_whichAreNothing 3 (some .int) :: gT) B.pre w (List.mem_cons_of_mem _ h)
  have hown : s.vm.findClass RX8 = some m.cls := findClass_of_methodNamed B.named
  subst hsz
  have hD := hD0.self (sz := s.heap.size)
  generalize hAe : va_A [(a, .inr (8, [.ref pt, .int da, .ref x1, .ref x2, .ref x3, .ref x4, .ref x5, .ref x6, .ref x7, .ref x8, .ref x9, .ref x10, .int sa])), (pt, .inr (3, [.ref p1, .ref p2, .ref p3, .ref p4, .ref p5, .int 0, .int 5, .int 0, .int 0])), (p2, .inl (cy 1, 4, .inl (fun _ => 0)))] s.heap.size = A at hD hSD ⊢
  have hA : ∀ q : Nat, s.heap.size ≤ q → A q := fun q h => by rw [← hAe]; exact Or.inr h
  have hS : va_S A s.heap s.heap [] := va_S.rf
  have hl := lv_entry ([.ref a]) (n := 3) (Nat.le_of_ble_eq_true rfl)
  rw [lg_entry_eq]
  generalize (lg_sl ([.ref a]) ++ List.replicate (3 - (lg_sl ([.ref a])).length) Slot.unset).toArray = ls at hl ⊢
  have hl : lv_has ls 3 [(0, .ref a)] := hl
  refine lv_iconst (v := 0) hx hb dX8_whichAreNothing_0 (by decide) ?_
  refine lv_istore_n (lv' := [(1, .int 0), (0, .ref a)]) hx hb dX8_whichAreNothing_1 rfl hl (by decide) rfl (fun ls hl => ?_)
  refine lv_iconst (v := 0) hx hb dX8_whichAreNothing_2 (by decide) ?_
  refine lv_istore_n (lv' := [(2, .int 0), (1, .int 0), (0, .ref a)]) hx hb dX8_whichAreNothing_3 rfl hl (by decide) rfl (fun ls hl => ?_)
  refine lv_iload_n hx hb dX8_whichAreNothing_4 rfl (lv_at hl 0 rfl) ?_
  refine lv_aload_n hx hb dX8_whichAreNothing_5 rfl (lv_at hl 2 rfl) ?_
  refine va_get (D := D) (ci := 8) (v := .ref pt) (C := RX8) (T := TX8) (N := 13) hx hb hts inX8 hown hK hP 0 rfl rfl 0 (by decide) (hts _ tw_247) (fun _ h9 => h9) rfl dX8_whichAreNothing_6 ?_
  refine va_getN (D := D) (ci := 3) (v := .ref p2) (C := RX3) (T := TX3) (N := 9) hx hb hts inX3 hown hK hP 1 rfl rfl 1 (by decide) (hSD.nest tn_203) (fun _ h9 => h9) rfl dX8_whichAreNothing_9 ?_
  refine lv_iconst (v := 2) hx hb dX8_whichAreNothing_12 (by decide) ?_
  refine va_iald hx hb hK hP 2 1 rfl rfl (vp_in_nI (n := 2) (N := 4) (by decide) (by decide)) dX8_whichAreNothing_13 ?_
  refine tI (y := 0) (rfl) ?_
  refine lv_icmp_ge (tgt := 38) hx hb dX8_whichAreNothing_14 (by decide) (fun _ => ?_) (fun c9 => absurd (by decide) c9)
  refine lv_iload_n hx hb dX8_whichAreNothing_38 rfl (lv_at hl 1 rfl) ?_
  have hP9 : va_P D classes [(a, .inr (8, [.ref pt, .int da, .ref x1, .ref x2, .ref x3, .ref x4, .ref x5, .ref x6, .ref x7, .ref x8, .ref x9, .ref x10, .int sa])), (pt, .inr (3, [.ref p1, .ref p2, .ref p3, .ref p4, .ref p5, .int 0, .int 5, .int 0, .int 0])), (p2, .inl (cy 1, 4, .inl (fun _ => 0)))] s.heap := subP hP [0, 1, 2] rfl
  have hD9 : va_D A [(a, .inr (8, [.ref pt, .int da, .ref x1, .ref x2, .ref x3, .ref x4, .ref x5, .ref x6, .ref x7, .ref x8, .ref x9, .ref x10, .int sa])), (pt, .inr (3, [.ref p1, .ref p2, .ref p3, .ref p4, .ref p5, .int 0, .int 5, .int 0, .int 0])), (p2, .inl (cy 1, 4, .inl (fun _ => 0)))] := hD.sub [0, 1, 2] (by decide) rfl
  exact W.iret (v := 0) hx hb hr (fun t ht hW => ⟨⟨0, (), rfl, rfl, by rw [ht]; exact hP9, va_K.moved hW.alike hK, hD9⟩, hS.F ht⟩) hS.2.2 dX8_whichAreNothing_39
set_option maxHeartbeats 4000000 in
set_option maxRecDepth 100000 in
theorem c_W_whichAreWatched (l : Launch) (D : va_G) (cy : Nat → ClassId) (z : Nat → Nat) (sz : Nat) (a : Nat) (x1 : Nat) (x2 : Nat) (x3 : Nat) (x4 : Nat) (x5 : Nat) (x6 : Nat) (x7 : Nat) (x8 : Nat) (x9 : Nat) (x10 : Nat) (pt : Nat) (p1 : Nat) (p2 : Nat) (p3 : Nat) (p4 : Nat) (p5 : Nat) (da : Int32) (sa : Int32) : Met l yX8_whichAreWatched (Cond.code yX8_whichAreWatched cX8_whichAreWatched 3 (some .int) :: gT) ({ frames := 0, cells := 0, slots := 0, locals := 200 } : Room) (va_Pc [.ref a] (PRE D cy z [(a, .inr (8, [.ref pt, .int da, .ref x1, .ref x2, .ref x3, .ref x4, .ref x5, .ref x6, .ref x7, .ref x8, .ref x9, .ref x10, .int sa])), (pt, .inr (3, [.ref p1, .ref p2, .ref p3, .ref p4, .ref p5, .int 0, .int 5, .int 0, .int 0])), (p2, .inl (cy 1, 4, .inl (fun _ => 0)))] sz)) (va_Qi (fun (r : Int32) (u : Unit) => r = 0) (BB D cy (va_A [(a, .inr (8, [.ref pt, .int da, .ref x1, .ref x2, .ref x3, .ref x4, .ref x5, .ref x6, .ref x7, .ref x8, .ref x9, .ref x10, .int sa])), (pt, .inr (3, [.ref p1, .ref p2, .ref p3, .ref p4, .ref p5, .int 0, .int 5, .int 0, .int 0])), (p2, .inl (cy 1, 4, .inl (fun _ => 0)))] sz) (fun (u : Unit) => [(a, .inr (8, [.ref pt, .int da, .ref x1, .ref x2, .ref x3, .ref x4, .ref x5, .ref x6, .ref x7, .ref x8, .ref x9, .ref x10, .int sa])), (pt, .inr (3, [.ref p1, .ref p2, .ref p3, .ref p4, .ref p5, .int 0, .int 5, .int 0, .int 0])), (p2, .inl (cy 1, 4, .inl (fun _ => 0)))])) (va_A [(a, .inr (8, [.ref pt, .int da, .ref x1, .ref x2, .ref x3, .ref x4, .ref x5, .ref x6, .ref x7, .ref x8, .ref x9, .ref x10, .int sa])), (pt, .inr (3, [.ref p1, .ref p2, .ref p3, .ref p4, .ref p5, .int 0, .int 5, .int 0, .int 0])), (p2, .inl (cy 1, 4, .inl (fun _ => 0)))] sz)) 0 0 (va_A [(a, .inr (8, [.ref pt, .int da, .ref x1, .ref x2, .ref x3, .ref x4, .ref x5, .ref x6, .ref x7, .ref x8, .ref x9, .ref x10, .int sa])), (pt, .inr (3, [.ref p1, .ref p2, .ref p3, .ref p4, .ref p5, .int 0, .int 5, .int 0, .int 0])), (p2, .inl (cy 1, 4, .inl (fun _ => 0)))] sz) := by
  refine Met.ofW (cc := cX8_whichAreWatched) (maxL := 3) (ret := (some .int)) (by decide) rfl ?_
  intro p e s m args below meth c s₁ B hml hv
  obtain ⟨rfl, hsz, hP, hK, hD0, hSD⟩ := hv
  have hx := B.exec
  have hb := B.bytes
  have hr := B.returns
  have hlocks := B.notSynchronized
  have hts : ∀ w ∈ gT, w.before _ s = true := fun w h => atoms_spec (ws := Cond.code yX8_whichAreWatched cX8_whichAreWatched 3 (some .int) :: gT) B.pre w (List.mem_cons_of_mem _ h)
  have hown : s.vm.findClass RX8 = some m.cls := findClass_of_methodNamed B.named
  subst hsz
  have hD := hD0.self (sz := s.heap.size)
  generalize hAe : va_A [(a, .inr (8, [.ref pt, .int da, .ref x1, .ref x2, .ref x3, .ref x4, .ref x5, .ref x6, .ref x7, .ref x8, .ref x9, .ref x10, .int sa])), (pt, .inr (3, [.ref p1, .ref p2, .ref p3, .ref p4, .ref p5, .int 0, .int 5, .int 0, .int 0])), (p2, .inl (cy 1, 4, .inl (fun _ => 0)))] s.heap.size = A at hD hSD ⊢
  have hA : ∀ q : Nat, s.heap.size ≤ q → A q := fun q h => by rw [← hAe]; exact Or.inr h
  have hS : va_S A s.heap s.heap [] := va_S.rf
  have hl := lv_entry ([.ref a]) (n := 3) (Nat.le_of_ble_eq_true rfl)
  rw [lg_entry_eq]
  generalize (lg_sl ([.ref a]) ++ List.replicate (3 - (lg_sl ([.ref a])).length) Slot.unset).toArray = ls at hl ⊢
  have hl : lv_has ls 3 [(0, .ref a)] := hl
  refine lv_iconst (v := 0) hx hb dX8_whichAreWatched_0 (by decide) ?_
  refine lv_istore_n (lv' := [(1, .int 0), (0, .ref a)]) hx hb dX8_whichAreWatched_1 rfl hl (by decide) rfl (fun ls hl => ?_)
  refine lv_iconst (v := 0) hx hb dX8_whichAreWatched_2 (by decide) ?_
  refine lv_istore_n (lv' := [(2, .int 0), (1, .int 0), (0, .ref a)]) hx hb dX8_whichAreWatched_3 rfl hl (by decide) rfl (fun ls hl => ?_)
  refine lv_iload_n hx hb dX8_whichAreWatched_4 rfl (lv_at hl 0 rfl) ?_
  refine lv_aload_n hx hb dX8_whichAreWatched_5 rfl (lv_at hl 2 rfl) ?_
  refine va_get (D := D) (ci := 8) (v := .ref pt) (C := RX8) (T := TX8) (N := 13) hx hb hts inX8 hown hK hP 0 rfl rfl 0 (by decide) (hts _ tw_247) (fun _ h9 => h9) rfl dX8_whichAreWatched_6 ?_
  refine va_getN (D := D) (ci := 3) (v := .ref p2) (C := RX3) (T := TX3) (N := 9) hx hb hts inX3 hown hK hP 1 rfl rfl 1 (by decide) (hSD.nest tn_203) (fun _ h9 => h9) rfl dX8_whichAreWatched_9 ?_
  refine lv_iconst (v := 2) hx hb dX8_whichAreWatched_12 (by decide) ?_
  refine va_iald hx hb hK hP 2 1 rfl rfl (vp_in_nI (n := 2) (N := 4) (by decide) (by decide)) dX8_whichAreWatched_13 ?_
  refine tI (y := 0) (rfl) ?_
  refine lv_icmp_ge (tgt := 37) hx hb dX8_whichAreWatched_14 (by decide) (fun _ => ?_) (fun c9 => absurd (by decide) c9)
  refine lv_iload_n hx hb dX8_whichAreWatched_37 rfl (lv_at hl 1 rfl) ?_
  have hP9 : va_P D classes [(a, .inr (8, [.ref pt, .int da, .ref x1, .ref x2, .ref x3, .ref x4, .ref x5, .ref x6, .ref x7, .ref x8, .ref x9, .ref x10, .int sa])), (pt, .inr (3, [.ref p1, .ref p2, .ref p3, .ref p4, .ref p5, .int 0, .int 5, .int 0, .int 0])), (p2, .inl (cy 1, 4, .inl (fun _ => 0)))] s.heap := subP hP [0, 1, 2] rfl
  have hD9 : va_D A [(a, .inr (8, [.ref pt, .int da, .ref x1, .ref x2, .ref x3, .ref x4, .ref x5, .ref x6, .ref x7, .ref x8, .ref x9, .ref x10, .int sa])), (pt, .inr (3, [.ref p1, .ref p2, .ref p3, .ref p4, .ref p5, .int 0, .int 5, .int 0, .int 0])), (p2, .inl (cy 1, 4, .inl (fun _ => 0)))] := hD.sub [0, 1, 2] (by decide) rfl
  exact W.iret (v := 0) hx hb hr (fun t ht hW => ⟨⟨0, (), rfl, rfl, by rw [ht]; exact hP9, va_K.moved hW.alike hK, hD9⟩, hS.F ht⟩) hS.2.2 dX8_whichAreWatched_38
set_option maxHeartbeats 4000000 in
set_option maxRecDepth 100000 in
theorem c_W_allThatAllHave (l : Launch) (D : va_G) (cy : Nat → ClassId) (z : Nat → Nat) (sz : Nat) (a : Nat) (x1 : Nat) (x2 : Nat) (x3 : Nat) (x4 : Nat) (x5 : Nat) (x6 : Nat) (x7 : Nat) (x8 : Nat) (x9 : Nat) (x10 : Nat) (pt : Nat) (p1 : Nat) (p2 : Nat) (p3 : Nat) (p4 : Nat) (p5 : Nat) (da : Int32) (sa : Int32) : Met l yX8_allThatAllHave (Cond.code yX8_allThatAllHave cX8_allThatAllHave 3 (some .int) :: gT) ({ frames := 0, cells := 0, slots := 0, locals := 200 } : Room) (va_Pc [.ref a] (PRE D cy z [(a, .inr (8, [.ref pt, .int da, .ref x1, .ref x2, .ref x3, .ref x4, .ref x5, .ref x6, .ref x7, .ref x8, .ref x9, .ref x10, .int sa])), (pt, .inr (3, [.ref p1, .ref p2, .ref p3, .ref p4, .ref p5, .int 0, .int 5, .int 0, .int 0])), (p2, .inl (cy 1, 4, .inl (fun _ => 0)))] sz)) (va_Qi (fun (r : Int32) (u : Unit) => r = 0) (BB D cy (va_A [(a, .inr (8, [.ref pt, .int da, .ref x1, .ref x2, .ref x3, .ref x4, .ref x5, .ref x6, .ref x7, .ref x8, .ref x9, .ref x10, .int sa])), (pt, .inr (3, [.ref p1, .ref p2, .ref p3, .ref p4, .ref p5, .int 0, .int 5, .int 0, .int 0])), (p2, .inl (cy 1, 4, .inl (fun _ => 0)))] sz) (fun (u : Unit) => [(a, .inr (8, [.ref pt, .int da, .ref x1, .ref x2, .ref x3, .ref x4, .ref x5, .ref x6, .ref x7, .ref x8, .ref x9, .ref x10, .int sa])), (pt, .inr (3, [.ref p1, .ref p2, .ref p3, .ref p4, .ref p5, .int 0, .int 5, .int 0, .int 0])), (p2, .inl (cy 1, 4, .inl (fun _ => 0)))])) (va_A [(a, .inr (8, [.ref pt, .int da, .ref x1, .ref x2, .ref x3, .ref x4, .ref x5, .ref x6, .ref x7, .ref x8, .ref x9, .ref x10, .int sa])), (pt, .inr (3, [.ref p1, .ref p2, .ref p3, .ref p4, .ref p5, .int 0, .int 5, .int 0, .int 0])), (p2, .inl (cy 1, 4, .inl (fun _ => 0)))] sz)) 0 0 (va_A [(a, .inr (8, [.ref pt, .int da, .ref x1, .ref x2, .ref x3, .ref x4, .ref x5, .ref x6, .ref x7, .ref x8, .ref x9, .ref x10, .int sa])), (pt, .inr (3, [.ref p1, .ref p2, .ref p3, .ref p4, .ref p5, .int 0, .int 5, .int 0, .int 0])), (p2, .inl (cy 1, 4, .inl (fun _ => 0)))] sz) := by
  refine Met.ofW (cc := cX8_allThatAllHave) (maxL := 3) (ret := (some .int)) (by decide) rfl ?_
  intro p e s m args below meth c s₁ B hml hv
  obtain ⟨rfl, hsz, hP, hK, hD0, hSD⟩ := hv
  have hx := B.exec
  have hb := B.bytes
  have hr := B.returns
  have hlocks := B.notSynchronized
  have hts : ∀ w ∈ gT, w.before _ s = true := fun w h => atoms_spec (ws := Cond.code yX8_allThatAllHave cX8_allThatAllHave 3 (some .int) :: gT) B.pre w (List.mem_cons_of_mem _ h)
  have hown : s.vm.findClass RX8 = some m.cls := findClass_of_methodNamed B.named
  subst hsz
  have hD := hD0.self (sz := s.heap.size)
  generalize hAe : va_A [(a, .inr (8, [.ref pt, .int da, .ref x1, .ref x2, .ref x3, .ref x4, .ref x5, .ref x6, .ref x7, .ref x8, .ref x9, .ref x10, .int sa])), (pt, .inr (3, [.ref p1, .ref p2, .ref p3, .ref p4, .ref p5, .int 0, .int 5, .int 0, .int 0])), (p2, .inl (cy 1, 4, .inl (fun _ => 0)))] s.heap.size = A at hD hSD ⊢
  have hA : ∀ q : Nat, s.heap.size ≤ q → A q := fun q h => by rw [← hAe]; exact Or.inr h
  have hS : va_S A s.heap s.heap [] := va_S.rf
  have hl := lv_entry ([.ref a]) (n := 3) (Nat.le_of_ble_eq_true rfl)
  rw [lg_entry_eq]
  generalize (lg_sl ([.ref a]) ++ List.replicate (3 - (lg_sl ([.ref a])).length) Slot.unset).toArray = ls at hl ⊢
  have hl : lv_has ls 3 [(0, .ref a)] := hl
  refine lv_iconst (v := 0) hx hb dX8_allThatAllHave_0 (by decide) ?_
  refine lv_istore_n (lv' := [(1, .int 0), (0, .ref a)]) hx hb dX8_allThatAllHave_1 rfl hl (by decide) rfl (fun ls hl => ?_)
  refine lv_iconst (v := 0) hx hb dX8_allThatAllHave_2 (by decide) ?_
  refine lv_istore_n (lv' := [(2, .int 0), (1, .int 0), (0, .ref a)]) hx hb dX8_allThatAllHave_3 rfl hl (by decide) rfl (fun ls hl => ?_)
  refine lv_iload_n hx hb dX8_allThatAllHave_4 rfl (lv_at hl 0 rfl) ?_
  refine lv_aload_n hx hb dX8_allThatAllHave_5 rfl (lv_at hl 2 rfl) ?_
  refine va_get (D := D) (ci := 8) (v := .ref pt) (C := RX8) (T := TX8) (N := 13) hx hb hts inX8 hown hK hP 0 rfl rfl 0 (by decide) (hts _ tw_247) (fun _ h9 => h9) rfl dX8_allThatAllHave_6 ?_
  refine va_getN (D := D) (ci := 3) (v := .ref p2) (C := RX3) (T := TX3) (N := 9) hx hb hts inX3 hown hK hP 1 rfl rfl 1 (by decide) (hSD.nest tn_203) (fun _ h9 => h9) rfl dX8_allThatAllHave_9 ?_
  refine lv_iconst (v := 2) hx hb dX8_allThatAllHave_12 (by decide) ?_
  refine va_iald hx hb hK hP 2 1 rfl rfl (vp_in_nI (n := 2) (N := 4) (by decide) (by decide)) dX8_allThatAllHave_13 ?_
  refine tI (y := 0) (rfl) ?_
  refine lv_icmp_ge (tgt := 31) hx hb dX8_allThatAllHave_14 (by decide) (fun _ => ?_) (fun c9 => absurd (by decide) c9)
  refine lv_iload_n hx hb dX8_allThatAllHave_31 rfl (lv_at hl 1 rfl) ?_
  have hP9 : va_P D classes [(a, .inr (8, [.ref pt, .int da, .ref x1, .ref x2, .ref x3, .ref x4, .ref x5, .ref x6, .ref x7, .ref x8, .ref x9, .ref x10, .int sa])), (pt, .inr (3, [.ref p1, .ref p2, .ref p3, .ref p4, .ref p5, .int 0, .int 5, .int 0, .int 0])), (p2, .inl (cy 1, 4, .inl (fun _ => 0)))] s.heap := subP hP [0, 1, 2] rfl
  have hD9 : va_D A [(a, .inr (8, [.ref pt, .int da, .ref x1, .ref x2, .ref x3, .ref x4, .ref x5, .ref x6, .ref x7, .ref x8, .ref x9, .ref x10, .int sa])), (pt, .inr (3, [.ref p1, .ref p2, .ref p3, .ref p4, .ref p5, .int 0, .int 5, .int 0, .int 0])), (p2, .inl (cy 1, 4, .inl (fun _ => 0)))] := hD.sub [0, 1, 2] (by decide) rfl
  exact W.iret (v := 0) hx hb hr (fun t ht hW => ⟨⟨0, (), rfl, rfl, by rw [ht]; exact hP9, va_K.moved hW.alike hK, hD9⟩, hS.F ht⟩) hS.2.2 dX8_allThatAllHave_32
set_option maxHeartbeats 4000000 in
set_option maxRecDepth 100000 in
theorem c_W_settleAll (l : Launch) (D : va_G) (cy : Nat → ClassId) (z : Nat → Nat) (sz : Nat) (a : Nat) (x1 : Nat) (x2 : Nat) (x3 : Nat) (x4 : Nat) (x5 : Nat) (x6 : Nat) (x7 : Nat) (x8 : Nat) (x9 : Nat) (x10 : Nat) (pt : Nat) (p1 : Nat) (p2 : Nat) (p3 : Nat) (p4 : Nat) (p5 : Nat) (da : Int32) (sa : Int32) : Met l yX8_settleAll (Cond.code yX8_settleAll cX8_settleAll 5 (some .int) :: gT) ({ frames := 0, cells := 0, slots := 0, locals := 200 } : Room) (va_Pc [.ref a] (PRE D cy z [(a, .inr (8, [.ref pt, .int da, .ref x1, .ref x2, .ref x3, .ref x4, .ref x5, .ref x6, .ref x7, .ref x8, .ref x9, .ref x10, .int sa])), (pt, .inr (3, [.ref p1, .ref p2, .ref p3, .ref p4, .ref p5, .int 0, .int 5, .int 0, .int 0])), (p2, .inl (cy 1, 4, .inl (fun _ => 0)))] sz)) (va_Qi (fun (r : Int32) (u : Unit) => r = 1) (BB D cy (va_A [(a, .inr (8, [.ref pt, .int da, .ref x1, .ref x2, .ref x3, .ref x4, .ref x5, .ref x6, .ref x7, .ref x8, .ref x9, .ref x10, .int sa])), (pt, .inr (3, [.ref p1, .ref p2, .ref p3, .ref p4, .ref p5, .int 0, .int 5, .int 0, .int 0])), (p2, .inl (cy 1, 4, .inl (fun _ => 0)))] sz) (fun (u : Unit) => [(a, .inr (8, [.ref pt, .int da, .ref x1, .ref x2, .ref x3, .ref x4, .ref x5, .ref x6, .ref x7, .ref x8, .ref x9, .ref x10, .int sa])), (pt, .inr (3, [.ref p1, .ref p2, .ref p3, .ref p4, .ref p5, .int 0, .int 5, .int 0, .int 0])), (p2, .inl (cy 1, 4, .inl (fun _ => 0)))])) (va_A [(a, .inr (8, [.ref pt, .int da, .ref x1, .ref x2, .ref x3, .ref x4, .ref x5, .ref x6, .ref x7, .ref x8, .ref x9, .ref x10, .int sa])), (pt, .inr (3, [.ref p1, .ref p2, .ref p3, .ref p4, .ref p5, .int 0, .int 5, .int 0, .int 0])), (p2, .inl (cy 1, 4, .inl (fun _ => 0)))] sz)) 0 0 (va_A [(a, .inr (8, [.ref pt, .int da, .ref x1, .ref x2, .ref x3, .ref x4, .ref x5, .ref x6, .ref x7, .ref x8, .ref x9, .ref x10, .int sa])), (pt, .inr (3, [.ref p1, .ref p2, .ref p3, .ref p4, .ref p5, .int 0, .int 5, .int 0, .int 0])), (p2, .inl (cy 1, 4, .inl (fun _ => 0)))] sz) := by
  refine Met.ofW (cc := cX8_settleAll) (maxL := 5) (ret := (some .int)) (by decide) rfl ?_
  intro p e s m args below meth c s₁ B hml hv
  obtain ⟨rfl, hsz, hP, hK, hD0, hSD⟩ := hv
  have hx := B.exec
  have hb := B.bytes
  have hr := B.returns
  have hlocks := B.notSynchronized
  have hts : ∀ w ∈ gT, w.before _ s = true := fun w h => atoms_spec (ws := Cond.code yX8_settleAll cX8_settleAll 5 (some .int) :: gT) B.pre w (List.mem_cons_of_mem _ h)
  have hown : s.vm.findClass RX8 = some m.cls := findClass_of_methodNamed B.named
  subst hsz
  have hD := hD0.self (sz := s.heap.size)
  generalize hAe : va_A [(a, .inr (8, [.ref pt, .int da, .ref x1, .ref x2, .ref x3, .ref x4, .ref x5, .ref x6, .ref x7, .ref x8, .ref x9, .ref x10, .int sa])), (pt, .inr (3, [.ref p1, .ref p2, .ref p3, .ref p4, .ref p5, .int 0, .int 5, .int 0, .int 0])), (p2, .inl (cy 1, 4, .inl (fun _ => 0)))] s.heap.size = A at hD hSD ⊢
  have hA : ∀ q : Nat, s.heap.size ≤ q → A q := fun q h => by rw [← hAe]; exact Or.inr h
  have hS : va_S A s.heap s.heap [] := va_S.rf
  have hl := lv_entry ([.ref a]) (n := 5) (Nat.le_of_ble_eq_true rfl)
  rw [lg_entry_eq]
  generalize (lg_sl ([.ref a]) ++ List.replicate (5 - (lg_sl ([.ref a])).length) Slot.unset).toArray = ls at hl ⊢
  have hl : lv_has ls 5 [(0, .ref a)] := hl
  refine lv_iconst (v := 1) hx hb dX8_settleAll_0 (by decide) ?_
  refine lv_istore_n (lv' := [(1, .int 1), (0, .ref a)]) hx hb dX8_settleAll_1 rfl hl (by decide) rfl (fun ls hl => ?_)
  refine lv_iconst (v := 0) hx hb dX8_settleAll_2 (by decide) ?_
  refine lv_istore_n (lv' := [(2, .int 0), (1, .int 1), (0, .ref a)]) hx hb dX8_settleAll_3 rfl hl (by decide) rfl (fun ls hl => ?_)
  refine lv_iload_n hx hb dX8_settleAll_4 rfl (lv_at hl 1 rfl) ?_
  refine lv_if_eq (tgt := 75) hx hb dX8_settleAll_5 (by decide) (fun c9 => absurd c9 (by decide)) (fun _ => ?_)
  refine lv_iload_n hx hb dX8_settleAll_8 rfl (lv_at hl 0 rfl) ?_
  refine lv_bipush (v := 10) hx hb dX8_settleAll_9 (by decide) ?_
  refine lv_icmp_ge (tgt := 75) hx hb dX8_settleAll_11 (by decide) (fun c9 => absurd c9 (by decide)) (fun _ => ?_)
  refine lv_iconst (v := 0) hx hb dX8_settleAll_14 (by decide) ?_
  refine lv_istore_n (lv' := [(1, .int 0), (2, .int 0), (0, .ref a)]) hx hb dX8_settleAll_15 rfl hl (by decide) rfl (fun ls hl => ?_)
  refine lv_iconst (v := 0) hx hb dX8_settleAll_16 (by decide) ?_
  refine lv_istore_n (lv' := [(3, .int 0), (1, .int 0), (2, .int 0), (0, .ref a)]) hx hb dX8_settleAll_17 rfl hl (by decide) rfl (fun ls hl => ?_)
  refine lv_iload_n hx hb dX8_settleAll_18 rfl (lv_at hl 0 rfl) ?_
  refine lv_aload_n hx hb dX8_settleAll_19 rfl (lv_at hl 3 rfl) ?_
  refine va_get (D := D) (ci := 8) (v := .ref pt) (C := RX8) (T := TX8) (N := 13) hx hb hts inX8 hown hK hP 0 rfl rfl 0 (by decide) (hts _ tw_247) (fun _ h9 => h9) rfl dX8_settleAll_20 ?_
  refine va_getN (D := D) (ci := 3) (v := .ref p2) (C := RX3) (T := TX3) (N := 9) hx hb hts inX3 hown hK hP 1 rfl rfl 1 (by decide) (hSD.nest tn_203) (fun _ h9 => h9) rfl dX8_settleAll_23 ?_
  refine lv_iconst (v := 3) hx hb dX8_settleAll_26 (by decide) ?_
  refine va_iald hx hb hK hP 2 1 rfl rfl (vp_in_nI (n := 3) (N := 4) (by decide) (by decide)) dX8_settleAll_27 ?_
  refine tI (y := 0) (rfl) ?_
  refine lv_icmp_ge (tgt := 69) hx hb dX8_settleAll_28 (by decide) (fun _ => ?_) (fun c9 => absurd (by decide) c9)
  refine lv_iinc (v := 1) (lv' := [(2, .int 1), (3, .int 0), (1, .int 0), (0, .ref a)]) hx hb dX8_settleAll_69 hl (k := 2) rfl (by decide) (by decide) rfl (fun ls hl => ?_)
  refine lv_goto (tgt := 4) hx hb dX8_settleAll_72 (by decide) ?_
  refine lv_iload_n hx hb dX8_settleAll_4 rfl (lv_at hl 2 rfl) ?_
  refine lv_if_eq (tgt := 75) hx hb dX8_settleAll_5 (by decide) (fun _ => ?_) (fun c9 => absurd (by decide) c9)
  refine lv_iload_n hx hb dX8_settleAll_75 rfl (lv_at hl 0 rfl) ?_
  have hP9 : va_P D classes [(a, .inr (8, [.ref pt, .int da, .ref x1, .ref x2, .ref x3, .ref x4, .ref x5, .ref x6, .ref x7, .ref x8, .ref x9, .ref x10, .int sa])), (pt, .inr (3, [.ref p1, .ref p2, .ref p3, .ref p4, .ref p5, .int 0, .int 5, .int 0, .int 0])), (p2, .inl (cy 1, 4, .inl (fun _ => 0)))] s.heap := subP hP [0, 1, 2] rfl
  have hD9 : va_D A [(a, .inr (8, [.ref pt, .int da, .ref x1, .ref x2, .ref x3, .ref x4, .ref x5, .ref x6, .ref x7, .ref x8, .ref x9, .ref x10, .int sa])), (pt, .inr (3, [.ref p1, .ref p2, .ref p3, .ref p4, .ref p5, .int 0, .int 5, .int 0, .int 0])), (p2, .inl (cy 1, 4, .inl (fun _ => 0)))] := hD.sub [0, 1, 2] (by decide) rfl
  exact W.iret (v := 1) hx hb hr (fun t ht hW => ⟨⟨1, (), rfl, rfl, by rw [ht]; exact hP9, va_K.moved hW.alike hK, hD9⟩, hS.F ht⟩) hS.2.2 dX8_settleAll_76
set_option maxHeartbeats 4000000 in
set_option maxRecDepth 100000 in
theorem c_W_sumOfParcels (l : Launch) (D : va_G) (cy : Nat → ClassId) (z : Nat → Nat) (sz : Nat) (a : Nat) (x1 : Nat) (x2 : Nat) (x3 : Nat) (x4 : Nat) (x5 : Nat) (x6 : Nat) (x7 : Nat) (x8 : Nat) (x9 : Nat) (x10 : Nat) (pt : Nat) (p1 : Nat) (p2 : Nat) (p3 : Nat) (p4 : Nat) (p5 : Nat) (r : Nat) (da : Int32) (sa : Int32) : Met l yX8_sumOfParcels (Cond.code yX8_sumOfParcels cX8_sumOfParcels 4 (some .int) :: gT) ({ frames := 0, cells := 0, slots := 0, locals := 200 } : Room) (va_Pc [.ref a, .ref r] (PRE D cy z [(a, .inr (8, [.ref pt, .int da, .ref x1, .ref x2, .ref x3, .ref x4, .ref x5, .ref x6, .ref x7, .ref x8, .ref x9, .ref x10, .int sa])), (pt, .inr (3, [.ref p1, .ref p2, .ref p3, .ref p4, .ref p5, .int 0, .int 5, .int 0, .int 0])), (p2, .inl (cy 1, 4, .inl (fun _ => 0)))] sz)) (va_Qi (fun (r : Int32) (u : Unit) => r = 0) (BB D cy (va_A [(a, .inr (8, [.ref pt, .int da, .ref x1, .ref x2, .ref x3, .ref x4, .ref x5, .ref x6, .ref x7, .ref x8, .ref x9, .ref x10, .int sa])), (pt, .inr (3, [.ref p1, .ref p2, .ref p3, .ref p4, .ref p5, .int 0, .int 5, .int 0, .int 0])), (p2, .inl (cy 1, 4, .inl (fun _ => 0)))] sz) (fun (u : Unit) => [(a, .inr (8, [.ref pt, .int da, .ref x1, .ref x2, .ref x3, .ref x4, .ref x5, .ref x6, .ref x7, .ref x8, .ref x9, .ref x10, .int sa])), (pt, .inr (3, [.ref p1, .ref p2, .ref p3, .ref p4, .ref p5, .int 0, .int 5, .int 0, .int 0])), (p2, .inl (cy 1, 4, .inl (fun _ => 0)))])) (va_A [(a, .inr (8, [.ref pt, .int da, .ref x1, .ref x2, .ref x3, .ref x4, .ref x5, .ref x6, .ref x7, .ref x8, .ref x9, .ref x10, .int sa])), (pt, .inr (3, [.ref p1, .ref p2, .ref p3, .ref p4, .ref p5, .int 0, .int 5, .int 0, .int 0])), (p2, .inl (cy 1, 4, .inl (fun _ => 0)))] sz)) 0 0 (va_A [(a, .inr (8, [.ref pt, .int da, .ref x1, .ref x2, .ref x3, .ref x4, .ref x5, .ref x6, .ref x7, .ref x8, .ref x9, .ref x10, .int sa])), (pt, .inr (3, [.ref p1, .ref p2, .ref p3, .ref p4, .ref p5, .int 0, .int 5, .int 0, .int 0])), (p2, .inl (cy 1, 4, .inl (fun _ => 0)))] sz) := by
  refine Met.ofW (cc := cX8_sumOfParcels) (maxL := 4) (ret := (some .int)) (by decide) rfl ?_
  intro p e s m args below meth c s₁ B hml hv
  obtain ⟨rfl, hsz, hP, hK, hD0, hSD⟩ := hv
  have hx := B.exec
  have hb := B.bytes
  have hr := B.returns
  have hlocks := B.notSynchronized
  have hts : ∀ w ∈ gT, w.before _ s = true := fun w h => atoms_spec (ws := Cond.code yX8_sumOfParcels cX8_sumOfParcels 4 (some .int) :: gT) B.pre w (List.mem_cons_of_mem _ h)
  have hown : s.vm.findClass RX8 = some m.cls := findClass_of_methodNamed B.named
  subst hsz
  have hD := hD0.self (sz := s.heap.size)
  generalize hAe : va_A [(a, .inr (8, [.ref pt, .int da, .ref x1, .ref x2, .ref x3, .ref x4, .ref x5, .ref x6, .ref x7, .ref x8, .ref x9, .ref x10, .int sa])), (pt, .inr (3, [.ref p1, .ref p2, .ref p3, .ref p4, .ref p5, .int 0, .int 5, .int 0, .int 0])), (p2, .inl (cy 1, 4, .inl (fun _ => 0)))] s.heap.size = A at hD hSD ⊢
  have hA : ∀ q : Nat, s.heap.size ≤ q → A q := fun q h => by rw [← hAe]; exact Or.inr h
  have hS : va_S A s.heap s.heap [] := va_S.rf
  have hl := lv_entry ([.ref a, .ref r]) (n := 4) (Nat.le_of_ble_eq_true rfl)
  rw [lg_entry_eq]
  generalize (lg_sl ([.ref a, .ref r]) ++ List.replicate (4 - (lg_sl ([.ref a, .ref r])).length) Slot.unset).toArray = ls at hl ⊢
  have hl : lv_has ls 4 [(0, .ref a), (1, .ref r)] := hl
  refine lv_iconst (v := 0) hx hb dX8_sumOfParcels_0 (by decide) ?_
  refine lv_istore_n (lv' := [(2, .int 0), (0, .ref a), (1, .ref r)]) hx hb dX8_sumOfParcels_1 rfl hl (by decide) rfl (fun ls hl => ?_)
  refine lv_iconst (v := 0) hx hb dX8_sumOfParcels_2 (by decide) ?_
  refine lv_istore_n (lv' := [(3, .int 0), (2, .int 0), (0, .ref a), (1, .ref r)]) hx hb dX8_sumOfParcels_3 rfl hl (by decide) rfl (fun ls hl => ?_)
  refine lv_iload_n hx hb dX8_sumOfParcels_4 rfl (lv_at hl 0 rfl) ?_
  refine lv_aload_n hx hb dX8_sumOfParcels_5 rfl (lv_at hl 2 rfl) ?_
  refine va_get (D := D) (ci := 8) (v := .ref pt) (C := RX8) (T := TX8) (N := 13) hx hb hts inX8 hown hK hP 0 rfl rfl 0 (by decide) (hts _ tw_247) (fun _ h9 => h9) rfl dX8_sumOfParcels_6 ?_
  refine va_getN (D := D) (ci := 3) (v := .ref p2) (C := RX3) (T := TX3) (N := 9) hx hb hts inX3 hown hK hP 1 rfl rfl 1 (by decide) (hSD.nest tn_203) (fun _ h9 => h9) rfl dX8_sumOfParcels_9 ?_
  refine lv_iconst (v := 2) hx hb dX8_sumOfParcels_12 (by decide) ?_
  refine va_iald hx hb hK hP 2 1 rfl rfl (vp_in_nI (n := 2) (N := 4) (by decide) (by decide)) dX8_sumOfParcels_13 ?_
  refine tI (y := 0) (rfl) ?_
  refine lv_icmp_ge (tgt := 35) hx hb dX8_sumOfParcels_14 (by decide) (fun _ => ?_) (fun c9 => absurd (by decide) c9)
  refine lv_iload_n hx hb dX8_sumOfParcels_35 rfl (lv_at hl 1 rfl) ?_
  have hP9 : va_P D classes [(a, .inr (8, [.ref pt, .int da, .ref x1, .ref x2, .ref x3, .ref x4, .ref x5, .ref x6, .ref x7, .ref x8, .ref x9, .ref x10, .int sa])), (pt, .inr (3, [.ref p1, .ref p2, .ref p3, .ref p4, .ref p5, .int 0, .int 5, .int 0, .int 0])), (p2, .inl (cy 1, 4, .inl (fun _ => 0)))] s.heap := subP hP [0, 1, 2] rfl
  have hD9 : va_D A [(a, .inr (8, [.ref pt, .int da, .ref x1, .ref x2, .ref x3, .ref x4, .ref x5, .ref x6, .ref x7, .ref x8, .ref x9, .ref x10, .int sa])), (pt, .inr (3, [.ref p1, .ref p2, .ref p3, .ref p4, .ref p5, .int 0, .int 5, .int 0, .int 0])), (p2, .inl (cy 1, 4, .inl (fun _ => 0)))] := hD.sub [0, 1, 2] (by decide) rfl
  exact W.iret (v := 0) hx hb hr (fun t ht hW => ⟨⟨0, (), rfl, rfl, by rw [ht]; exact hP9, va_K.moved hW.alike hK, hD9⟩, hS.F ht⟩) hS.2.2 dX8_sumOfParcels_36
set_option maxHeartbeats 4000000 in
set_option maxRecDepth 100000 in
theorem c_W_daysLeft (l : Launch) (D : va_G) (cy : Nat → ClassId) (z : Nat → Nat) (sz : Nat) (a : Nat) (x1 : Nat) (x2 : Nat) (x3 : Nat) (x4 : Nat) (x5 : Nat) (x6 : Nat) (x7 : Nat) (x8 : Nat) (x9 : Nat) (x10 : Nat) (pt : Nat) : Met l yX8_daysLeft (Cond.code yX8_daysLeft cX8_daysLeft 1 (some .int) :: gT) ({ frames := 2, cells := 0, slots := 0, locals := 400 } : Room) (va_Pc [.ref a] (PRE D cy z [(a, .inr (8, [.ref pt, .int 0, .ref x1, .ref x2, .ref x3, .ref x4, .ref x5, .ref x6, .ref x7, .ref x8, .ref x9, .ref x10, .int 0]))] sz)) (va_Qi (fun (r : Int32) (u : Unit) => r = 400) (BB D cy (va_A [(a, .inr (8, [.ref pt, .int 0, .ref x1, .ref x2, .ref x3, .ref x4, .ref x5, .ref x6, .ref x7, .ref x8, .ref x9, .ref x10, .int 0]))] sz) (fun (u : Unit) => [(a, .inr (8, [.ref pt, .int 0, .ref x1, .ref x2, .ref x3, .ref x4, .ref x5, .ref x6, .ref x7, .ref x8, .ref x9, .ref x10, .int 0]))])) (va_A [(a, .inr (8, [.ref pt, .int 0, .ref x1, .ref x2, .ref x3, .ref x4, .ref x5, .ref x6, .ref x7, .ref x8, .ref x9, .ref x10, .int 0]))] sz)) 0 0 (va_A [(a, .inr (8, [.ref pt, .int 0, .ref x1, .ref x2, .ref x3, .ref x4, .ref x5, .ref x6, .ref x7, .ref x8, .ref x9, .ref x10, .int 0]))] sz) := by
  refine Met.ofW (cc := cX8_daysLeft) (maxL := 1) (ret := (some .int)) (by decide) rfl ?_
  intro p e s m args below meth c s₁ B hml hv
  obtain ⟨rfl, hsz, hP, hK, hD0, hSD⟩ := hv
  have hx := B.exec
  have hb := B.bytes
  have hr := B.returns
  have hlocks := B.notSynchronized
  have hts : ∀ w ∈ gT, w.before _ s = true := fun w h => atoms_spec (ws := Cond.code yX8_daysLeft cX8_daysLeft 1 (some .int) :: gT) B.pre w (List.mem_cons_of_mem _ h)
  have hown : s.vm.findClass RX8 = some m.cls := findClass_of_methodNamed B.named
  subst hsz
  have hD := hD0.self (sz := s.heap.size)
  generalize hAe : va_A [(a, .inr (8, [.ref pt, .int 0, .ref x1, .ref x2, .ref x3, .ref x4, .ref x5, .ref x6, .ref x7, .ref x8, .ref x9, .ref x10, .int 0]))] s.heap.size = A at hD hSD ⊢
  have hA : ∀ q : Nat, s.heap.size ≤ q → A q := fun q h => by rw [← hAe]; exact Or.inr h
  have hS : va_S A s.heap s.heap [] := va_S.rf
  have hl := lv_entry ([.ref a]) (n := 1) (Nat.le_of_ble_eq_true rfl)
  rw [lg_entry_eq]
  generalize (lg_sl ([.ref a]) ++ List.replicate (1 - (lg_sl ([.ref a])).length) Slot.unset).toArray = ls at hl ⊢
  have hl : lv_has ls 1 [(0, .ref a)] := hl
  refine lv_iconst (v := 0) hx hb dX8_daysLeft_0 (by decide) ?_
  refine lv_sipush (v := 400) hx hb dX8_daysLeft_1 (by decide) ?_
  refine lv_aload_n hx hb dX8_daysLeft_4 rfl (lv_at hl 0 rfl) ?_
  refine va_get (D := D) (ci := 8) (v := .int 0) (C := RX8) (T := TX8) (N := 13) hx hb hts inX8 hown hK hP 0 rfl rfl 1 (by decide) (hts _ tw_250) (fun _ h9 => h9) rfl dX8_daysLeft_5 ?_
  refine lv_isub hx hb dX8_daysLeft_8 ?_
  refine tI (y := 400) (by decide) ?_
  refine va_mmax hx hb (hml.trans hl.1.symm) hown (hts _ tw_488) (hts _ tw_489) (hts _ tw_16) (hts _ tw_490) (Nat.le_of_ble_eq_true rfl) (Nat.le_of_ble_eq_true rfl) (Nat.le_of_ble_eq_true rfl) (Nat.le_of_ble_eq_true rfl) dX8_daysLeft_9 ?_
  refine tI (y := 400) (by decide) ?_
  have hP9 : va_P D classes [(a, .inr (8, [.ref pt, .int 0, .ref x1, .ref x2, .ref x3, .ref x4, .ref x5, .ref x6, .ref x7, .ref x8, .ref x9, .ref x10, .int 0]))] s.heap := subP hP [0] rfl
  have hD9 : va_D A [(a, .inr (8, [.ref pt, .int 0, .ref x1, .ref x2, .ref x3, .ref x4, .ref x5, .ref x6, .ref x7, .ref x8, .ref x9, .ref x10, .int 0]))] := hD.sub [0] (by decide) rfl
  exact W.iret (v := 400) hx hb hr (fun t ht hW => ⟨⟨400, (), rfl, rfl, by rw [ht]; exact hP9, va_K.moved hW.alike hK, hD9⟩, hS.F ht⟩) hS.2.2 dX8_daysLeft_12
set_option maxHeartbeats 4000000 in
set_option maxRecDepth 100000 in
theorem c_W_goDay (l : Launch) (D : va_G) (cy : Nat → ClassId) (z : Nat → Nat) (sz : Nat) (a : Nat) (x1 : Nat) (x2 : Nat) (x3 : Nat) (x4 : Nat) (x5 : Nat) (x6 : Nat) (x7 : Nat) (x8 : Nat) (x9 : Nat) (x10 : Nat) (pt : Nat) (p1 : Nat) (p2 : Nat) (p3 : Nat) (p4 : Nat) (p5 : Nat) (da : Int32) (sa : Int32) : Met l yX8_goDay (Cond.code yX8_goDay cX8_goDay 2 none :: gT) ({ frames := 0, cells := 0, slots := 0, locals := 200 } : Room) (va_Pc [.ref a] (PRE D cy z [(a, .inr (8, [.ref pt, .int da, .ref x1, .ref x2, .ref x3, .ref x4, .ref x5, .ref x6, .ref x7, .ref x8, .ref x9, .ref x10, .int sa])), (pt, .inr (3, [.ref p1, .ref p2, .ref p3, .ref p4, .ref p5, .int 0, .int 5, .int 0, .int 0])), (p2, .inl (cy 1, 4, .inl (fun _ => 0)))] sz)) (va_Qv (fun (u : Unit) => True) (BB D cy (va_A [(a, .inr (8, [.ref pt, .int da, .ref x1, .ref x2, .ref x3, .ref x4, .ref x5, .ref x6, .ref x7, .ref x8, .ref x9, .ref x10, .int sa])), (pt, .inr (3, [.ref p1, .ref p2, .ref p3, .ref p4, .ref p5, .int 0, .int 5, .int 0, .int 0])), (p2, .inl (cy 1, 4, .inl (fun _ => 0)))] sz) (fun (u : Unit) => [(a, .inr (8, [.ref pt, .int (da + 1), .ref x1, .ref x2, .ref x3, .ref x4, .ref x5, .ref x6, .ref x7, .ref x8, .ref x9, .ref x10, .int sa])), (pt, .inr (3, [.ref p1, .ref p2, .ref p3, .ref p4, .ref p5, .int 0, .int 5, .int 0, .int 0])), (p2, .inl (cy 1, 4, .inl (fun _ => 0)))])) (va_A [(a, .inr (8, [.ref pt, .int da, .ref x1, .ref x2, .ref x3, .ref x4, .ref x5, .ref x6, .ref x7, .ref x8, .ref x9, .ref x10, .int sa])), (pt, .inr (3, [.ref p1, .ref p2, .ref p3, .ref p4, .ref p5, .int 0, .int 5, .int 0, .int 0])), (p2, .inl (cy 1, 4, .inl (fun _ => 0)))] sz)) 0 0 (va_A [(a, .inr (8, [.ref pt, .int da, .ref x1, .ref x2, .ref x3, .ref x4, .ref x5, .ref x6, .ref x7, .ref x8, .ref x9, .ref x10, .int sa])), (pt, .inr (3, [.ref p1, .ref p2, .ref p3, .ref p4, .ref p5, .int 0, .int 5, .int 0, .int 0])), (p2, .inl (cy 1, 4, .inl (fun _ => 0)))] sz) := by
  refine Met.ofW (cc := cX8_goDay) (maxL := 2) (ret := none) (by decide) rfl ?_
  intro p e s m args below meth c s₁ B hml hv
  obtain ⟨rfl, hsz, hP, hK, hD0, hSD⟩ := hv
  have hx := B.exec
  have hb := B.bytes
  have hr := B.returns
  have hlocks := B.notSynchronized
  have hts : ∀ w ∈ gT, w.before _ s = true := fun w h => atoms_spec (ws := Cond.code yX8_goDay cX8_goDay 2 none :: gT) B.pre w (List.mem_cons_of_mem _ h)
  have hown : s.vm.findClass RX8 = some m.cls := findClass_of_methodNamed B.named
  subst hsz
  have hD := hD0.self (sz := s.heap.size)
  generalize hAe : va_A [(a, .inr (8, [.ref pt, .int da, .ref x1, .ref x2, .ref x3, .ref x4, .ref x5, .ref x6, .ref x7, .ref x8, .ref x9, .ref x10, .int sa])), (pt, .inr (3, [.ref p1, .ref p2, .ref p3, .ref p4, .ref p5, .int 0, .int 5, .int 0, .int 0])), (p2, .inl (cy 1, 4, .inl (fun _ => 0)))] s.heap.size = A at hD hSD ⊢
  have hA : ∀ q : Nat, s.heap.size ≤ q → A q := fun q h => by rw [← hAe]; exact Or.inr h
  have hS : va_S A s.heap s.heap [] := va_S.rf
  have hl := lv_entry ([.ref a]) (n := 2) (Nat.le_of_ble_eq_true rfl)
  rw [lg_entry_eq]
  generalize (lg_sl ([.ref a]) ++ List.replicate (2 - (lg_sl ([.ref a])).length) Slot.unset).toArray = ls at hl ⊢
  have hl : lv_has ls 2 [(0, .ref a)] := hl
  refine lv_iconst (v := 0) hx hb dX8_goDay_0 (by decide) ?_
  refine lv_istore_n (lv' := [(1, .int 0), (0, .ref a)]) hx hb dX8_goDay_1 rfl hl (by decide) rfl (fun ls hl => ?_)
  refine lv_iload_n hx hb dX8_goDay_2 rfl (lv_at hl 0 rfl) ?_
  refine lv_aload_n hx hb dX8_goDay_3 rfl (lv_at hl 1 rfl) ?_
  refine va_get (D := D) (ci := 8) (v := .ref pt) (C := RX8) (T := TX8) (N := 13) hx hb hts inX8 hown hK hP 0 rfl rfl 0 (by decide) (hts _ tw_247) (fun _ h9 => h9) rfl dX8_goDay_4 ?_
  refine va_getN (D := D) (ci := 3) (v := .ref p2) (C := RX3) (T := TX3) (N := 9) hx hb hts inX3 hown hK hP 1 rfl rfl 1 (by decide) (hSD.nest tn_203) (fun _ h9 => h9) rfl dX8_goDay_7 ?_
  refine lv_iconst (v := 2) hx hb dX8_goDay_10 (by decide) ?_
  refine va_iald hx hb hK hP 2 1 rfl rfl (vp_in_nI (n := 2) (N := 4) (by decide) (by decide)) dX8_goDay_11 ?_
  refine tI (y := 0) (rfl) ?_
  refine lv_icmp_ge (tgt := 34) hx hb dX8_goDay_12 (by decide) (fun _ => ?_) (fun c9 => absurd (by decide) c9)
  refine lv_aload_n hx hb dX8_goDay_34 rfl (lv_at hl 1 rfl) ?_
  refine lv_dup hx hb dX8_goDay_35 rfl ?_
  refine va_get (D := D) (ci := 8) (v := .int da) (C := RX8) (T := TX8) (N := 13) hx hb hts inX8 hown hK hP 0 rfl rfl 1 (by decide) (hts _ tw_250) (fun _ h9 => h9) rfl dX8_goDay_36 ?_
  refine lv_iconst (v := 1) hx hb dX8_goDay_39 (by decide) ?_
  refine lv_iadd hx hb dX8_goDay_40 ?_
  refine va_put (D := D) (ci := 8) (v := .int (da + 1)) (ty := .int) (C := RX8) (T := TX8) (N := 13) hx hb hts inX8 tyX8 tyX8_ok nmX8 hown hK hP hD hS 0 rfl rfl 1 (by decide) (hts _ tw_250) (fun _ h9 => h9) rfl (by decide +kernel) rfl rfl (Nat.le_of_ble_eq_true rfl) dX8_goDay_41 (fun H locs hP hD hS => ?_)
  have hP : va_P D classes [(a, .inr (8, [.ref pt, .int (da + 1), .ref x1, .ref x2, .ref x3, .ref x4, .ref x5, .ref x6, .ref x7, .ref x8, .ref x9, .ref x10, .int sa])), (pt, .inr (3, [.ref p1, .ref p2, .ref p3, .ref p4, .ref p5, .int 0, .int 5, .int 0, .int 0])), (p2, .inl (cy 1, 4, .inl (fun _ => 0)))] H := hP
  have hD : va_D A [(a, .inr (8, [.ref pt, .int (da + 1), .ref x1, .ref x2, .ref x3, .ref x4, .ref x5, .ref x6, .ref x7, .ref x8, .ref x9, .ref x10, .int sa])), (pt, .inr (3, [.ref p1, .ref p2, .ref p3, .ref p4, .ref p5, .int 0, .int 5, .int 0, .int 0])), (p2, .inl (cy 1, 4, .inl (fun _ => 0)))] := hD
  have hP9 : va_P D classes [(a, .inr (8, [.ref pt, .int (da + 1), .ref x1, .ref x2, .ref x3, .ref x4, .ref x5, .ref x6, .ref x7, .ref x8, .ref x9, .ref x10, .int sa])), (pt, .inr (3, [.ref p1, .ref p2, .ref p3, .ref p4, .ref p5, .int 0, .int 5, .int 0, .int 0])), (p2, .inl (cy 1, 4, .inl (fun _ => 0)))] H := subP hP [0, 1, 2] rfl
  have hD9 : va_D A [(a, .inr (8, [.ref pt, .int (da + 1), .ref x1, .ref x2, .ref x3, .ref x4, .ref x5, .ref x6, .ref x7, .ref x8, .ref x9, .ref x10, .int sa])), (pt, .inr (3, [.ref p1, .ref p2, .ref p3, .ref p4, .ref p5, .int 0, .int 5, .int 0, .int 0])), (p2, .inl (cy 1, 4, .inl (fun _ => 0)))] := hD.sub [0, 1, 2] (by decide) rfl
  exact W.vret hx hb hr (fun t ht hW => ⟨⟨(), rfl, trivial, by rw [ht]; exact hP9, va_K.moved hW.alike hK, hD9⟩, hS.F ht⟩) hS.2.2 dX8_goDay_44
set_option maxHeartbeats 4000000 in
set_option maxRecDepth 100000 in
theorem c_W_goDays (l : Launch) (D : va_G) (cy : Nat → ClassId) (z : Nat → Nat) (sz : Nat) (a : Nat) (x1 : Nat) (x2 : Nat) (x3 : Nat) (x4 : Nat) (x5 : Nat) (x6 : Nat) (x7 : Nat) (x8 : Nat) (x9 : Nat) (x10 : Nat) (pt : Nat) (p1 : Nat) (p2 : Nat) (p3 : Nat) (p4 : Nat) (p5 : Nat) (j : Nat) (hj : j ≤ 60) : Met l yX8_goDays (Cond.code yX8_goDays cX8_goDays 4 (some .int) :: gT) ({ frames := 3, cells := 0, slots := 0, locals := 600 } : Room) (va_Pc [.ref a, .int (nI j)] (PRE D cy z [(a, .inr (8, [.ref pt, .int 0, .ref x1, .ref x2, .ref x3, .ref x4, .ref x5, .ref x6, .ref x7, .ref x8, .ref x9, .ref x10, .int 0])), (pt, .inr (3, [.ref p1, .ref p2, .ref p3, .ref p4, .ref p5, .int 0, .int 5, .int 0, .int 0])), (p2, .inl (cy 1, 4, .inl (fun _ => 0)))] sz)) (va_Qi (fun (r : Int32) (u : (Int32)) => r = nI j) (BB D cy (va_A [(a, .inr (8, [.ref pt, .int 0, .ref x1, .ref x2, .ref x3, .ref x4, .ref x5, .ref x6, .ref x7, .ref x8, .ref x9, .ref x10, .int 0])), (pt, .inr (3, [.ref p1, .ref p2, .ref p3, .ref p4, .ref p5, .int 0, .int 5, .int 0, .int 0])), (p2, .inl (cy 1, 4, .inl (fun _ => 0)))] sz) (fun (u : (Int32)) => [(a, .inr (8, [.ref pt, .int u, .ref x1, .ref x2, .ref x3, .ref x4, .ref x5, .ref x6, .ref x7, .ref x8, .ref x9, .ref x10, .int 0])), (pt, .inr (3, [.ref p1, .ref p2, .ref p3, .ref p4, .ref p5, .int 0, .int 5, .int 0, .int 0])), (p2, .inl (cy 1, 4, .inl (fun _ => 0)))])) (va_A [(a, .inr (8, [.ref pt, .int 0, .ref x1, .ref x2, .ref x3, .ref x4, .ref x5, .ref x6, .ref x7, .ref x8, .ref x9, .ref x10, .int 0])), (pt, .inr (3, [.ref p1, .ref p2, .ref p3, .ref p4, .ref p5, .int 0, .int 5, .int 0, .int 0])), (p2, .inl (cy 1, 4, .inl (fun _ => 0)))] sz)) 0 0 (va_A [(a, .inr (8, [.ref pt, .int 0, .ref x1, .ref x2, .ref x3, .ref x4, .ref x5, .ref x6, .ref x7, .ref x8, .ref x9, .ref x10, .int 0])), (pt, .inr (3, [.ref p1, .ref p2, .ref p3, .ref p4, .ref p5, .int 0, .int 5, .int 0, .int 0])), (p2, .inl (cy 1, 4, .inl (fun _ => 0)))] sz) := by
  refine Met.ofW (cc := cX8_goDays) (maxL := 4) (ret := (some .int)) (by decide) rfl ?_
  intro p e s m args below meth c s₁ B hml hv
  obtain ⟨rfl, hsz, hP, hK, hD0, hSD⟩ := hv
  have hx := B.exec
  have hb := B.bytes
  have hr := B.returns
  have hlocks := B.notSynchronized
  have hts : ∀ w ∈ gT, w.before _ s = true := fun w h => atoms_spec (ws := Cond.code yX8_goDays cX8_goDays 4 (some .int) :: gT) B.pre w (List.mem_cons_of_mem _ h)
  have hown : s.vm.findClass RX8 = some m.cls := findClass_of_methodNamed B.named
  subst hsz
  have hD := hD0.self (sz := s.heap.size)
  generalize hAe : va_A [(a, .inr (8, [.ref pt, .int 0, .ref x1, .ref x2, .ref x3, .ref x4, .ref x5, .ref x6, .ref x7, .ref x8, .ref x9, .ref x10, .int 0])), (pt, .inr (3, [.ref p1, .ref p2, .ref p3, .ref p4, .ref p5, .int 0, .int 5, .int 0, .int 0])), (p2, .inl (cy 1, 4, .inl (fun _ => 0)))] s.heap.size = A at hD hSD ⊢
  have hA : ∀ q : Nat, s.heap.size ≤ q → A q := fun q h => by rw [← hAe]; exact Or.inr h
  have hS : va_S A s.heap s.heap [] := va_S.rf
  have hl := lv_entry ([.ref a, .int (nI j)]) (n := 4) (Nat.le_of_ble_eq_true rfl)
  rw [lg_entry_eq]
  generalize (lg_sl ([.ref a, .int (nI j)]) ++ List.replicate (4 - (lg_sl ([.ref a, .int (nI j)])).length) Slot.unset).toArray = ls at hl ⊢
  have hl : lv_has ls 4 [(0, .ref a), (1, .int (nI j))] := hl
  refine lv_iload_n hx hb dX8_goDays_0 rfl (lv_at hl 1 rfl) ?_
  refine lv_aload_n hx hb dX8_goDays_1 rfl (lv_at hl 0 rfl) ?_
  refine endi (wr := [(pt, .inr (3, [.ref p1, .ref p2, .ref p3, .ref p4, .ref p5, .int 0, .int 5, .int 0, .int 0])), (p2, .inl (cy 1, 4, .inl (fun _ => 0)))]) (va_runV (As := []) (rest := [.int (nI j)]) ⟨hx, hb, hml, hown, hts⟩ (c_W_daysLeft l D cy z s.heap.size a x1 x2 x3 x4 x5 x6 x7 x8 x9 x10 pt) (cwV 0 hts (gV tw_681 tw_682 tw_683 tw_12 tw_684) rfl rfl rfl (by decide +kernel) ⟨Nat.le_of_ble_eq_true rfl, Nat.le_of_ble_eq_true rfl⟩) (preV hP hD hK hSD hS hA [0] rfl (by decide) (q := (RX8, TX8, 13)) (ci := 8) (q0 := 0) rfl rfl) rfl rfl hl.1 rfl (lv_room (Nat.le_of_ble_eq_true rfl)) dX8_goDays_2 ⟨Nat.le_of_ble_eq_true rfl, Nat.le_of_ble_eq_true rfl⟩) hP hD hS hA [0] [1, 2] rfl rfl (by decide) (by decide) (fun r_2 u_1 H locs hw_2 hP hD hS => ?_)
  have hP : va_P D classes [(pt, .inr (3, [.ref p1, .ref p2, .ref p3, .ref p4, .ref p5, .int 0, .int 5, .int 0, .int 0])), (p2, .inl (cy 1, 4, .inl (fun _ => 0))), (a, .inr (8, [.ref pt, .int 0, .ref x1, .ref x2, .ref x3, .ref x4, .ref x5, .ref x6, .ref x7, .ref x8, .ref x9, .ref x10, .int 0]))] H := hP
  have hD : va_D A [(pt, .inr (3, [.ref p1, .ref p2, .ref p3, .ref p4, .ref p5, .int 0, .int 5, .int 0, .int 0])), (p2, .inl (cy 1, 4, .inl (fun _ => 0))), (a, .inr (8, [.ref pt, .int 0, .ref x1, .ref x2, .ref x3, .ref x4, .ref x5, .ref x6, .ref x7, .ref x8, .ref x9, .ref x10, .int 0]))] := hD
  have hw_2 : r_2 = 400 := hw_2
  subst hw_2
  refine va_mmin hx hb (hml.trans hl.1.symm) hown (hts _ tw_485) (hts _ tw_486) (hts _ tw_16) (hts _ tw_487) (Nat.le_of_ble_eq_true rfl) (Nat.le_of_ble_eq_true rfl) (Nat.le_of_ble_eq_true rfl) (Nat.le_of_ble_eq_true rfl) dX8_goDays_5 ?_
  refine tI (y := nI j) (if_neg (nI_nlt (a := 400) (b := j) (by omega) (by decide))) ?_
  refine lv_istore_n (lv' := [(2, .int (nI j)), (0, .ref a), (1, .int (nI j))]) hx hb dX8_goDays_8 rfl hl (by decide) rfl (fun ls hl => ?_)
  refine lv_iconst (v := 0) hx hb dX8_goDays_9 (by decide) ?_
  refine lv_istore_n (lv' := [(3, .int 0), (2, .int (nI j)), (0, .ref a), (1, .int (nI j))]) hx hb dX8_goDays_10 rfl hl (by decide) rfl (fun ls hl => ?_)
  have LP : ∀ (Q : State → Prop), (∀ (x_3 : Int32) (H : Heap) (locs : List Loc) (ls : Array Slot), va_P D classes [(pt, .inr (3, [.ref p1, .ref p2, .ref p3, .ref p4, .ref p5, .int 0, .int 5, .int 0, .int 0])), (p2, .inl (cy 1, 4, .inl (fun _ => 0))), (a, .inr (8, [.ref pt, .int x_3, .ref x1, .ref x2, .ref x3, .ref x4, .ref x5, .ref x6, .ref x7, .ref x8, .ref x9, .ref x10, .int 0]))] H → va_D A [(pt, .inr (3, [.ref p1, .ref p2, .ref p3, .ref p4, .ref p5, .int 0, .int 5, .int 0, .int 0])), (p2, .inl (cy 1, 4, .inl (fun _ => 0))), (a, .inr (8, [.ref pt, .int x_3, .ref x1, .ref x2, .ref x3, .ref x4, .ref x5, .ref x6, .ref x7, .ref x8, .ref x9, .ref x10, .int 0]))] → va_S A s.heap H locs → lv_has ls 4 [(3, .int (nI (j))), (2, .int (nI j)), (0, .ref a), (1, .int (nI j))] → W p l e (headSpec (Cond.code yX8_goDays cX8_goDays 4 (some .int) :: gT) ({ frames := 3, cells := 0, slots := 0, locals := 600 } : Room)).room s m ([.ref a, .int (nI j)] : List Value).toArray below meth c H locs 0 0 Q (F0 m 26 ls [])) → ∀ (nf i : Nat) (x_3 : Int32) (H : Heap) (locs : List Loc) (ls : Array Slot), i ≤ j → j + 1 ≤ i + nf → va_P D classes [(pt, .inr (3, [.ref p1, .ref p2, .ref p3, .ref p4, .ref p5, .int 0, .int 5, .int 0, .int 0])), (p2, .inl (cy 1, 4, .inl (fun _ => 0))), (a, .inr (8, [.ref pt, .int x_3, .ref x1, .ref x2, .ref x3, .ref x4, .ref x5, .ref x6, .ref x7, .ref x8, .ref x9, .ref x10, .int 0]))] H → va_D A [(pt, .inr (3, [.ref p1, .ref p2, .ref p3, .ref p4, .ref p5, .int 0, .int 5, .int 0, .int 0])), (p2, .inl (cy 1, 4, .inl (fun _ => 0))), (a, .inr (8, [.ref pt, .int x_3, .ref x1, .ref x2, .ref x3, .ref x4, .ref x5, .ref x6, .ref x7, .ref x8, .ref x9, .ref x10, .int 0]))] → va_S A s.heap H locs → lv_has ls 4 [(3, .int (nI i)), (2, .int (nI j)), (0, .ref a), (1, .int (nI j))] → W p l e (headSpec (Cond.code yX8_goDays cX8_goDays 4 (some .int) :: gT) ({ frames := 3, cells := 0, slots := 0, locals := 600 } : Room)).room s m ([.ref a, .int (nI j)] : List Value).toArray below meth c H locs 0 0 Q (F0 m 11 ls []) := by
    intro Q kx nf
    induction nf with
    | zero => intro i x_3 H locs ls h1 h2; exact absurd h2 (by omega)
    | succ nf ih =>
      intro i x_3 H locs ls hi hin hP hD hS hl
      refine lv_iload_n hx hb dX8_goDays_11 rfl (lv_at hl 0 rfl) ?_
      refine lv_iload_n hx hb dX8_goDays_12 rfl (lv_at hl 1 rfl) ?_
      refine lv_icmp_ge (tgt := 26) hx hb dX8_goDays_13 (by decide) (fun c9 => ?_) (fun c9 => ?_)
      · have e9 : i = j := lpGe rfl (by omega) hi c9
        subst e9
        exact kx x_3 H locs ls (subP hP [0, 1, 2] rfl) (hD.sub [0, 1, 2] (by decide) rfl) hS (lv_sub hl [0, 1, 2, 3] rfl)
      · have hlt : i < j := lpLt rfl (by omega) hi c9
        refine lv_aload_n hx hb dX8_goDays_16 rfl (lv_at hl 2 rfl) ?_
        refine endv (wr := []) (va_runV (As := []) (rest := []) ⟨hx, hb, hml, hown, hts⟩ (c_W_goDay l D cy z H.size a x1 x2 x3 x4 x5 x6 x7 x8 x9 x10 pt p1 p2 p3 p4 p5 x_3 0) (cwV 0 hts (gV tw_685 tw_687 ts_13 tw_12 tw_688) rfl rfl rfl (by decide +kernel) ⟨Nat.le_of_ble_eq_true rfl, Nat.le_of_ble_eq_true rfl⟩) (preV hP hD hK hSD hS hA [2, 0, 1] rfl (by decide) (q := (RX8, TX8, 13)) (ci := 8) (q0 := 0) rfl rfl) rfl rfl hl.1 rfl (lv_room (Nat.le_of_ble_eq_true rfl)) dX8_goDays_17 ⟨Nat.le_of_ble_eq_true rfl, Nat.le_of_ble_eq_true rfl⟩) hP hD hS hA [2, 0, 1] [] rfl rfl (by decide) (by decide) (fun u_4 H locs hw_5 hP hD hS => ?_)
        have hP : va_P D classes [(a, .inr (8, [.ref pt, .int (x_3 + 1), .ref x1, .ref x2, .ref x3, .ref x4, .ref x5, .ref x6, .ref x7, .ref x8, .ref x9, .ref x10, .int 0])), (pt, .inr (3, [.ref p1, .ref p2, .ref p3, .ref p4, .ref p5, .int 0, .int 5, .int 0, .int 0])), (p2, .inl (cy 1, 4, .inl (fun _ => 0)))] H := hP
        have hD : va_D A [(a, .inr (8, [.ref pt, .int (x_3 + 1), .ref x1, .ref x2, .ref x3, .ref x4, .ref x5, .ref x6, .ref x7, .ref x8, .ref x9, .ref x10, .int 0])), (pt, .inr (3, [.ref p1, .ref p2, .ref p3, .ref p4, .ref p5, .int 0, .int 5, .int 0, .int 0])), (p2, .inl (cy 1, 4, .inl (fun _ => 0)))] := hD
        refine lv_iinc (v := nI (i + 1)) (lv' := [(3, .int (nI (i + 1))), (2, .int (nI j)), (0, .ref a), (1, .int (nI j))]) hx hb dX8_goDays_20 hl (k := 0) rfl (nI_1 _) (by decide) rfl (fun ls hl => ?_)
        refine lv_goto (tgt := 11) hx hb dX8_goDays_23 (by decide) ?_
        exact ih (i + 1) (x_3 + 1) H locs ls hlt (by omega) (subP hP [1, 2, 0] rfl) (hD.sub [1, 2, 0] (by decide) rfl) hS (lv_sub hl [0, 1, 2, 3] rfl)
  refine LP _ (fun x_3 H locs ls hP hD hS hl => ?_) (j + 1) 0 0 _ _ ls (by omega) (by omega) hP hD hS (lv_sub hl [0, 1, 2, 3] rfl)
  refine lv_iload_n hx hb dX8_goDays_26 rfl (lv_at hl 1 rfl) ?_
  have hP9 : va_P D classes [(a, .inr (8, [.ref pt, .int x_3, .ref x1, .ref x2, .ref x3, .ref x4, .ref x5, .ref x6, .ref x7, .ref x8, .ref x9, .ref x10, .int 0])), (pt, .inr (3, [.ref p1, .ref p2, .ref p3, .ref p4, .ref p5, .int 0, .int 5, .int 0, .int 0])), (p2, .inl (cy 1, 4, .inl (fun _ => 0)))] H := subP hP [2, 0, 1] rfl
  have hD9 : va_D A [(a, .inr (8, [.ref pt, .int x_3, .ref x1, .ref x2, .ref x3, .ref x4, .ref x5, .ref x6, .ref x7, .ref x8, .ref x9, .ref x10, .int 0])), (pt, .inr (3, [.ref p1, .ref p2, .ref p3, .ref p4, .ref p5, .int 0, .int 5, .int 0, .int 0])), (p2, .inl (cy 1, 4, .inl (fun _ => 0)))] := hD.sub [2, 0, 1] (by decide) rfl
  exact W.iret (v := nI j) hx hb hr (fun t ht hW => ⟨⟨nI j, ((x_3)), rfl, rfl, by rw [ht]; exact hP9, va_K.moved hW.alike hK, hD9⟩, hS.F ht⟩) hS.2.2 dX8_goDays_27
set_option maxHeartbeats 4000000 in
set_option maxRecDepth 100000 in
theorem c_H_prepare (l : Launch) (D : va_G) (cy : Nat → ClassId) (z : Nat → Nat) (sz : Nat) (hi : Nat) (ha : Nat) (hw : Nat) (b : Nat) (pa : Nat) (pb : Nat) (gh : Nat → Option Nat) (da : Int32) (db : Int32) (sa : Int32) (sb : Int32) (x1 : Nat) (x2 : Nat) (x3 : Nat) (x4 : Nat) (x5 : Nat) (x6 : Nat) (x7 : Nat) (x8 : Nat) (x9 : Nat) (x10 : Nat) (y1 : Nat) (y2 : Nat) (y3 : Nat) (y4 : Nat) (y5 : Nat) (y6 : Nat) (y7 : Nat) (y8 : Nat) (y9 : Nat) (y10 : Nat) (f1 : Nat → Int32) (f2 : Nat → Int32) (f3 : Nat → Int32) (f4 : Nat → Int32) (f5 : Nat → Int32) (f6 : Nat → Int32) (f7 : Nat → Int32) (f8 : Nat → Int32) (f9 : Nat → Int32) (h1 : Nat → Int32) (h2 : Nat → Int32) (h3 : Nat → Int32) (h4 : Nat → Int32) (h5 : Nat → Int32) (h6 : Nat → Int32) (h7 : Nat → Int32) (h8 : Nat → Int32) (h9 : Nat → Int32) (hgh : gh 0 = some hw) : Met l yX1_prepare (Cond.code yX1_prepare cX1_prepare 2 none :: gT) ({ frames := 3, cells := 0, slots := 0, locals := 600 } : Room) (va_Pc [.ref hi, .ref b] (PRE D cy z [(hi, .inr (1, [.ref ha, .int 0, .int 0])), (ha, .inl (cy 4, 9, .inr (.inr (.inr (.inr gh))))), (hw, .inr (8, [.ref pa, .int da, .ref x1, .ref x2, .ref x3, .ref x4, .ref x5, .ref x6, .ref x7, .ref x8, .ref x9, .ref x10, .int sa])), (b, .inr (8, [.ref pb, .int db, .ref y1, .ref y2, .ref y3, .ref y4, .ref y5, .ref y6, .ref y7, .ref y8, .ref y9, .ref y10, .int sb])), (x1, .inl (cy 1, 36, .inl f1)), (x2, .inl (cy 1, 6, .inl f2)), (x3, .inl (cy 1, 6, .inl f3)), (x4, .inl (cy 1, 6, .inl f4)), (x5, .inl (cy 1, 6, .inl f5)), (x6, .inl (cy 1, 8, .inl f6)), (x7, .inl (cy 1, 8, .inl f7)), (x8, .inl (cy 1, 8, .inl f8)), (x9, .inl (cy 1, 8, .inl f9)), (y1, .inl (cy 1, 36, .inl h1)), (y2, .inl (cy 1, 6, .inl h2)), (y3, .inl (cy 1, 6, .inl h3)), (y4, .inl (cy 1, 6, .inl h4)), (y5, .inl (cy 1, 6, .inl h5)), (y6, .inl (cy 1, 8, .inl h6)), (y7, .inl (cy 1, 8, .inl h7)), (y8, .inl (cy 1, 8, .inl h8)), (y9, .inl (cy 1, 8, .inl h9))] sz)) (va_Qv (fun (u : (Nat → Int32) × (Nat → Int32) × (Nat → Int32) × (Nat → Int32) × (Nat → Int32) × (Nat → Int32) × (Nat → Int32) × (Nat → Int32) × (Nat → Int32)) => True) (BB D cy (va_A [(hi, .inr (1, [.ref ha, .int 0, .int 0])), (ha, .inl (cy 4, 9, .inr (.inr (.inr (.inr gh))))), (hw, .inr (8, [.ref pa, .int da, .ref x1, .ref x2, .ref x3, .ref x4, .ref x5, .ref x6, .ref x7, .ref x8, .ref x9, .ref x10, .int sa])), (b, .inr (8, [.ref pb, .int db, .ref y1, .ref y2, .ref y3, .ref y4, .ref y5, .ref y6, .ref y7, .ref y8, .ref y9, .ref y10, .int sb])), (x1, .inl (cy 1, 36, .inl f1)), (x2, .inl (cy 1, 6, .inl f2)), (x3, .inl (cy 1, 6, .inl f3)), (x4, .inl (cy 1, 6, .inl f4)), (x5, .inl (cy 1, 6, .inl f5)), (x6, .inl (cy 1, 8, .inl f6)), (x7, .inl (cy 1, 8, .inl f7)), (x8, .inl (cy 1, 8, .inl f8)), (x9, .inl (cy 1, 8, .inl f9)), (y1, .inl (cy 1, 36, .inl h1)), (y2, .inl (cy 1, 6, .inl h2)), (y3, .inl (cy 1, 6, .inl h3)), (y4, .inl (cy 1, 6, .inl h4)), (y5, .inl (cy 1, 6, .inl h5)), (y6, .inl (cy 1, 8, .inl h6)), (y7, .inl (cy 1, 8, .inl h7)), (y8, .inl (cy 1, 8, .inl h8)), (y9, .inl (cy 1, 8, .inl h9))] sz) (fun (u : (Nat → Int32) × (Nat → Int32) × (Nat → Int32) × (Nat → Int32) × (Nat → Int32) × (Nat → Int32) × (Nat → Int32) × (Nat → Int32) × (Nat → Int32)) => [(hi, .inr (1, [.ref ha, .int 0, .int 0])), (ha, .inl (cy 4, 9, .inr (.inr (.inr (.inr gh))))), (hw, .inr (8, [.ref pb, .int db, .ref x1, .ref x2, .ref x3, .ref x4, .ref x5, .ref x6, .ref x7, .ref x8, .ref x9, .ref x10, .int sa])), (b, .inr (8, [.ref pb, .int db, .ref y1, .ref y2, .ref y3, .ref y4, .ref y5, .ref y6, .ref y7, .ref y8, .ref y9, .ref y10, .int sb])), (x1, .inl (cy 1, 36, .inl u.1)), (x2, .inl (cy 1, 6, .inl u.2.1)), (x3, .inl (cy 1, 6, .inl u.2.2.1)), (x4, .inl (cy 1, 6, .inl u.2.2.2.1)), (x5, .inl (cy 1, 6, .inl u.2.2.2.2.1)), (x6, .inl (cy 1, 8, .inl u.2.2.2.2.2.1)), (x7, .inl (cy 1, 8, .inl u.2.2.2.2.2.2.1)), (x8, .inl (cy 1, 8, .inl u.2.2.2.2.2.2.2.1)), (x9, .inl (cy 1, 8, .inl u.2.2.2.2.2.2.2.2)), (y1, .inl (cy 1, 36, .inl h1)), (y2, .inl (cy 1, 6, .inl h2)), (y3, .inl (cy 1, 6, .inl h3)), (y4, .inl (cy 1, 6, .inl h4)), (y5, .inl (cy 1, 6, .inl h5)), (y6, .inl (cy 1, 8, .inl h6)), (y7, .inl (cy 1, 8, .inl h7)), (y8, .inl (cy 1, 8, .inl h8)), (y9, .inl (cy 1, 8, .inl h9))])) (va_A [(hi, .inr (1, [.ref ha, .int 0, .int 0])), (ha, .inl (cy 4, 9, .inr (.inr (.inr (.inr gh))))), (hw, .inr (8, [.ref pa, .int da, .ref x1, .ref x2, .ref x3, .ref x4, .ref x5, .ref x6, .ref x7, .ref x8, .ref x9, .ref x10, .int sa])), (b, .inr (8, [.ref pb, .int db, .ref y1, .ref y2, .ref y3, .ref y4, .ref y5, .ref y6, .ref y7, .ref y8, .ref y9, .ref y10, .int sb])), (x1, .inl (cy 1, 36, .inl f1)), (x2, .inl (cy 1, 6, .inl f2)), (x3, .inl (cy 1, 6, .inl f3)), (x4, .inl (cy 1, 6, .inl f4)), (x5, .inl (cy 1, 6, .inl f5)), (x6, .inl (cy 1, 8, .inl f6)), (x7, .inl (cy 1, 8, .inl f7)), (x8, .inl (cy 1, 8, .inl f8)), (x9, .inl (cy 1, 8, .inl f9)), (y1, .inl (cy 1, 36, .inl h1)), (y2, .inl (cy 1, 6, .inl h2)), (y3, .inl (cy 1, 6, .inl h3)), (y4, .inl (cy 1, 6, .inl h4)), (y5, .inl (cy 1, 6, .inl h5)), (y6, .inl (cy 1, 8, .inl h6)), (y7, .inl (cy 1, 8, .inl h7)), (y8, .inl (cy 1, 8, .inl h8)), (y9, .inl (cy 1, 8, .inl h9))] sz)) 0 0 (va_A [(hi, .inr (1, [.ref ha, .int 0, .int 0])), (ha, .inl (cy 4, 9, .inr (.inr (.inr (.inr gh))))), (hw, .inr (8, [.ref pa, .int da, .ref x1, .ref x2, .ref x3, .ref x4, .ref x5, .ref x6, .ref x7, .ref x8, .ref x9, .ref x10, .int sa])), (b, .inr (8, [.ref pb, .int db, .ref y1, .ref y2, .ref y3, .ref y4, .ref y5, .ref y6, .ref y7, .ref y8, .ref y9, .ref y10, .int sb])), (x1, .inl (cy 1, 36, .inl f1)), (x2, .inl (cy 1, 6, .inl f2)), (x3, .inl (cy 1, 6, .inl f3)), (x4, .inl (cy 1, 6, .inl f4)), (x5, .inl (cy 1, 6, .inl f5)), (x6, .inl (cy 1, 8, .inl f6)), (x7, .inl (cy 1, 8, .inl f7)), (x8, .inl (cy 1, 8, .inl f8)), (x9, .inl (cy 1, 8, .inl f9)), (y1, .inl (cy 1, 36, .inl h1)), (y2, .inl (cy 1, 6, .inl h2)), (y3, .inl (cy 1, 6, .inl h3)), (y4, .inl (cy 1, 6, .inl h4)), (y5, .inl (cy 1, 6, .inl h5)), (y6, .inl (cy 1, 8, .inl h6)), (y7, .inl (cy 1, 8, .inl h7)), (y8, .inl (cy 1, 8, .inl h8)), (y9, .inl (cy 1, 8, .inl h9))] sz) := by
  refine Met.ofW (cc := cX1_prepare) (maxL := 2) (ret := none) (by decide) rfl ?_
  intro p e s m args below meth c s₁ B hml hv
  obtain ⟨rfl, hsz, hP, hK, hD0, hSD⟩ := hv
  have hx := B.exec
  have hb := B.bytes
  have hr := B.returns
  have hlocks := B.notSynchronized
  have hts : ∀ w ∈ gT, w.before _ s = true := fun w h => atoms_spec (ws := Cond.code yX1_prepare cX1_prepare 2 none :: gT) B.pre w (List.mem_cons_of_mem _ h)
  have hown : s.vm.findClass RX1 = some m.cls := findClass_of_methodNamed B.named
  subst hsz
  have hD := hD0.self (sz := s.heap.size)
  generalize hAe : va_A [(hi, .inr (1, [.ref ha, .int 0, .int 0])), (ha, .inl (cy 4, 9, .inr (.inr (.inr (.inr gh))))), (hw, .inr (8, [.ref pa, .int da, .ref x1, .ref x2, .ref x3, .ref x4, .ref x5, .ref x6, .ref x7, .ref x8, .ref x9, .ref x10, .int sa])), (b, .inr (8, [.ref pb, .int db, .ref y1, .ref y2, .ref y3, .ref y4, .ref y5, .ref y6, .ref y7, .ref y8, .ref y9, .ref y10, .int sb])), (x1, .inl (cy 1, 36, .inl f1)), (x2, .inl (cy 1, 6, .inl f2)), (x3, .inl (cy 1, 6, .inl f3)), (x4, .inl (cy 1, 6, .inl f4)), (x5, .inl (cy 1, 6, .inl f5)), (x6, .inl (cy 1, 8, .inl f6)), (x7, .inl (cy 1, 8, .inl f7)), (x8, .inl (cy 1, 8, .inl f8)), (x9, .inl (cy 1, 8, .inl f9)), (y1, .inl (cy 1, 36, .inl h1)), (y2, .inl (cy 1, 6, .inl h2)), (y3, .inl (cy 1, 6, .inl h3)), (y4, .inl (cy 1, 6, .inl h4)), (y5, .inl (cy 1, 6, .inl h5)), (y6, .inl (cy 1, 8, .inl h6)), (y7, .inl (cy 1, 8, .inl h7)), (y8, .inl (cy 1, 8, .inl h8)), (y9, .inl (cy 1, 8, .inl h9))] s.heap.size = A at hD hSD ⊢
  have hA : ∀ q : Nat, s.heap.size ≤ q → A q := fun q h => by rw [← hAe]; exact Or.inr h
  have hS : va_S A s.heap s.heap [] := va_S.rf
  have hl := lv_entry ([.ref hi, .ref b]) (n := 2) (Nat.le_of_ble_eq_true rfl)
  rw [lg_entry_eq]
  generalize (lg_sl ([.ref hi, .ref b]) ++ List.replicate (2 - (lg_sl ([.ref hi, .ref b])).length) Slot.unset).toArray = ls at hl ⊢
  have hl : lv_has ls 2 [(0, .ref hi), (1, .ref b)] := hl
  refine lv_aload_n hx hb dX1_prepare_0 rfl (lv_at hl 0 rfl) ?_
  refine va_get (D := D) (ci := 1) (v := .ref ha) (C := RX1) (T := TX1) (N := 3) hx hb hts inX1 hown hK hP 0 rfl rfl 0 (by decide) (hts _ tw_313) (fun _ h9 => h9) rfl dX1_prepare_1 ?_
  refine lv_aload_n hx hb dX1_prepare_4 rfl (lv_at hl 0 rfl) ?_
  refine va_get (D := D) (ci := 1) (v := .int 0) (C := RX1) (T := TX1) (N := 3) hx hb hts inX1 hown hK hP 0 rfl rfl 1 (by decide) (hts _ tw_314) (fun _ h9 => h9) rfl dX1_prepare_5 ?_
  refine va_aldq hx hb hK hP 1 4 rfl rfl (vp_in_nI (n := 0) (N := 9) (by decide) (by decide)) dX1_prepare_8 ?_
  refine tV (y := .ref hw) (by show va_rf (gh 0) = _; rw [hgh]; rfl) ?_
  refine lv_aload_n hx hb dX1_prepare_9 rfl (lv_at hl 1 rfl) ?_
  refine endv (wr := [(hi, .inr (1, [.ref ha, .int 0, .int 0])), (ha, .inl (cy 4, 9, .inr (.inr (.inr (.inr gh)))))]) (va_runV (As := [.ref b]) (rest := []) ⟨hx, hb, hml, hown, hts⟩ (c_takeFrom l D cy z s.heap.size hw b pa pb da db sa sb x1 x2 x3 x4 x5 x6 x7 x8 x9 x10 y1 y2 y3 y4 y5 y6 y7 y8 y9 y10 f1 f2 f3 f4 f5 f6 f7 f8 f9 h1 h2 h3 h4 h5 h6 h7 h8 h9) (cwV 1 hts (gV tw_610 tw_522 tw_523 tw_12 tw_524) rfl rfl rfl (by decide +kernel) ⟨Nat.le_of_ble_eq_true rfl, Nat.le_of_ble_eq_true rfl⟩) (preV hP hD hK hSD hS hA [2, 3, 4, 5, 6, 7, 8, 9, 10, 11, 12, 13, 14, 15, 16, 17, 18, 19, 20, 21] rfl (by decide) (q := (RX8, TX8, 13)) (ci := 8) (q0 := 0) rfl rfl) rfl rfl hl.1 rfl (lv_room (Nat.le_of_ble_eq_true rfl)) dX1_prepare_10 ⟨Nat.le_of_ble_eq_true rfl, Nat.le_of_ble_eq_true rfl⟩) hP hD hS hA [2, 3, 4, 5, 6, 7, 8, 9, 10, 11, 12, 13, 14, 15, 16, 17, 18, 19, 20, 21] [0, 1] rfl rfl (by decide) (by decide) (fun u_1 H locs hw_2 hP hD hS => ?_)
  obtain ⟨g_3, g_4, g_5, g_6, g_7, g_8, g_9, g_10, g_11⟩ := u_1
  have hP : va_P D classes [(hi, .inr (1, [.ref ha, .int 0, .int 0])), (ha, .inl (cy 4, 9, .inr (.inr (.inr (.inr gh))))), (hw, .inr (8, [.ref pb, .int db, .ref x1, .ref x2, .ref x3, .ref x4, .ref x5, .ref x6, .ref x7, .ref x8, .ref x9, .ref x10, .int sa])), (b, .inr (8, [.ref pb, .int db, .ref y1, .ref y2, .ref y3, .ref y4, .ref y5, .ref y6, .ref y7, .ref y8, .ref y9, .ref y10, .int sb])), (x1, .inl (cy 1, 36, .inl g_3)), (x2, .inl (cy 1, 6, .inl g_4)), (x3, .inl (cy 1, 6, .inl g_5)), (x4, .inl (cy 1, 6, .inl g_6)), (x5, .inl (cy 1, 6, .inl g_7)), (x6, .inl (cy 1, 8, .inl g_8)), (x7, .inl (cy 1, 8, .inl g_9)), (x8, .inl (cy 1, 8, .inl g_10)), (x9, .inl (cy 1, 8, .inl g_11)), (y1, .inl (cy 1, 36, .inl h1)), (y2, .inl (cy 1, 6, .inl h2)), (y3, .inl (cy 1, 6, .inl h3)), (y4, .inl (cy 1, 6, .inl h4)), (y5, .inl (cy 1, 6, .inl h5)), (y6, .inl (cy 1, 8, .inl h6)), (y7, .inl (cy 1, 8, .inl h7)), (y8, .inl (cy 1, 8, .inl h8)), (y9, .inl (cy 1, 8, .inl h9))] H := hP
  have hD : va_D A [(hi, .inr (1, [.ref ha, .int 0, .int 0])), (ha, .inl (cy 4, 9, .inr (.inr (.inr (.inr gh))))), (hw, .inr (8, [.ref pb, .int db, .ref x1, .ref x2, .ref x3, .ref x4, .ref x5, .ref x6, .ref x7, .ref x8, .ref x9, .ref x10, .int sa])), (b, .inr (8, [.ref pb, .int db, .ref y1, .ref y2, .ref y3, .ref y4, .ref y5, .ref y6, .ref y7, .ref y8, .ref y9, .ref y10, .int sb])), (x1, .inl (cy 1, 36, .inl g_3)), (x2, .inl (cy 1, 6, .inl g_4)), (x3, .inl (cy 1, 6, .inl g_5)), (x4, .inl (cy 1, 6, .inl g_6)), (x5, .inl (cy 1, 6, .inl g_7)), (x6, .inl (cy 1, 8, .inl g_8)), (x7, .inl (cy 1, 8, .inl g_9)), (x8, .inl (cy 1, 8, .inl g_10)), (x9, .inl (cy 1, 8, .inl g_11)), (y1, .inl (cy 1, 36, .inl h1)), (y2, .inl (cy 1, 6, .inl h2)), (y3, .inl (cy 1, 6, .inl h3)), (y4, .inl (cy 1, 6, .inl h4)), (y5, .inl (cy 1, 6, .inl h5)), (y6, .inl (cy 1, 8, .inl h6)), (y7, .inl (cy 1, 8, .inl h7)), (y8, .inl (cy 1, 8, .inl h8)), (y9, .inl (cy 1, 8, .inl h9))] := hD
  have hP9 : va_P D classes [(hi, .inr (1, [.ref ha, .int 0, .int 0])), (ha, .inl (cy 4, 9, .inr (.inr (.inr (.inr gh))))), (hw, .inr (8, [.ref pb, .int db, .ref x1, .ref x2, .ref x3, .ref x4, .ref x5, .ref x6, .ref x7, .ref x8, .ref x9, .ref x10, .int sa])), (b, .inr (8, [.ref pb, .int db, .ref y1, .ref y2, .ref y3, .ref y4, .ref y5, .ref y6, .ref y7, .ref y8, .ref y9, .ref y10, .int sb])), (x1, .inl (cy 1, 36, .inl g_3)), (x2, .inl (cy 1, 6, .inl g_4)), (x3, .inl (cy 1, 6, .inl g_5)), (x4, .inl (cy 1, 6, .inl g_6)), (x5, .inl (cy 1, 6, .inl g_7)), (x6, .inl (cy 1, 8, .inl g_8)), (x7, .inl (cy 1, 8, .inl g_9)), (x8, .inl (cy 1, 8, .inl g_10)), (x9, .inl (cy 1, 8, .inl g_11)), (y1, .inl (cy 1, 36, .inl h1)), (y2, .inl (cy 1, 6, .inl h2)), (y3, .inl (cy 1, 6, .inl h3)), (y4, .inl (cy 1, 6, .inl h4)), (y5, .inl (cy 1, 6, .inl h5)), (y6, .inl (cy 1, 8, .inl h6)), (y7, .inl (cy 1, 8, .inl h7)), (y8, .inl (cy 1, 8, .inl h8)), (y9, .inl (cy 1, 8, .inl h9))] H := subP hP [0, 1, 2, 3, 4, 5, 6, 7, 8, 9, 10, 11, 12, 13, 14, 15, 16, 17, 18, 19, 20, 21] rfl
  have hD9 : va_D A [(hi, .inr (1, [.ref ha, .int 0, .int 0])), (ha, .inl (cy 4, 9, .inr (.inr (.inr (.inr gh))))), (hw, .inr (8, [.ref pb, .int db, .ref x1, .ref x2, .ref x3, .ref x4, .ref x5, .ref x6, .ref x7, .ref x8, .ref x9, .ref x10, .int sa])), (b, .inr (8, [.ref pb, .int db, .ref y1, .ref y2, .ref y3, .ref y4, .ref y5, .ref y6, .ref y7, .ref y8, .ref y9, .ref y10, .int sb])), (x1, .inl (cy 1, 36, .inl g_3)), (x2, .inl (cy 1, 6, .inl g_4)), (x3, .inl (cy 1, 6, .inl g_5)), (x4, .inl (cy 1, 6, .inl g_6)), (x5, .inl (cy 1, 6, .inl g_7)), (x6, .inl (cy 1, 8, .inl g_8)), (x7, .inl (cy 1, 8, .inl g_9)), (x8, .inl (cy 1, 8, .inl g_10)), (x9, .inl (cy 1, 8, .inl g_11)), (y1, .inl (cy 1, 36, .inl h1)), (y2, .inl (cy 1, 6, .inl h2)), (y3, .inl (cy 1, 6, .inl h3)), (y4, .inl (cy 1, 6, .inl h4)), (y5, .inl (cy 1, 6, .inl h5)), (y6, .inl (cy 1, 8, .inl h6)), (y7, .inl (cy 1, 8, .inl h7)), (y8, .inl (cy 1, 8, .inl h8)), (y9, .inl (cy 1, 8, .inl h9))] := hD.sub [0, 1, 2, 3, 4, 5, 6, 7, 8, 9, 10, 11, 12, 13, 14, 15, 16, 17, 18, 19, 20, 21] (by decide) rfl
  exact W.vret hx hb hr (fun t ht hW => ⟨⟨((g_3), (g_4), (g_5), (g_6), (g_7), (g_8), (g_9), (g_10), (g_11)), rfl, trivial, by rw [ht]; exact hP9, va_K.moved hW.alike hK, hD9⟩, hS.F ht⟩) hS.2.2 dX1_prepare_13
set_option maxHeartbeats 4000000 in
set_option maxRecDepth 100000 in
theorem c_H_keep (l : Launch) (D : va_G) (cy : Nat → ClassId) (z : Nat → Nat) (sz : Nat) (hi : Nat) (ha : Nat) : Met l yX1_keep (Cond.code yX1_keep cX1_keep 1 none :: gT) ({ frames := 2, cells := 0, slots := 0, locals := 400 } : Room) (va_Pc [.ref hi] (PRE D cy z [(hi, .inr (1, [.ref ha, .int 0, .int 0]))] sz)) (va_Qv (fun (u : Unit) => True) (BB D cy (va_A [(hi, .inr (1, [.ref ha, .int 0, .int 0]))] sz) (fun (u : Unit) => [(hi, .inr (1, [.ref ha, .int 1, .int 1]))])) (va_A [(hi, .inr (1, [.ref ha, .int 0, .int 0]))] sz)) 0 0 (va_A [(hi, .inr (1, [.ref ha, .int 0, .int 0]))] sz) := by
  refine Met.ofW (cc := cX1_keep) (maxL := 1) (ret := none) (by decide) rfl ?_
  intro p e s m args below meth c s₁ B hml hv
  obtain ⟨rfl, hsz, hP, hK, hD0, hSD⟩ := hv
  have hx := B.exec
  have hb := B.bytes
  have hr := B.returns
  have hlocks := B.notSynchronized
  have hts : ∀ w ∈ gT, w.before _ s = true := fun w h => atoms_spec (ws := Cond.code yX1_keep cX1_keep 1 none :: gT) B.pre w (List.mem_cons_of_mem _ h)
  have hown : s.vm.findClass RX1 = some m.cls := findClass_of_methodNamed B.named
  subst hsz
  have hD := hD0.self (sz := s.heap.size)
  generalize hAe : va_A [(hi, .inr (1, [.ref ha, .int 0, .int 0]))] s.heap.size = A at hD hSD ⊢
  have hA : ∀ q : Nat, s.heap.size ≤ q → A q := fun q h => by rw [← hAe]; exact Or.inr h
  have hS : va_S A s.heap s.heap [] := va_S.rf
  have hl := lv_entry ([.ref hi]) (n := 1) (Nat.le_of_ble_eq_true rfl)
  rw [lg_entry_eq]
  generalize (lg_sl ([.ref hi]) ++ List.replicate (1 - (lg_sl ([.ref hi])).length) Slot.unset).toArray = ls at hl ⊢
  have hl : lv_has ls 1 [(0, .ref hi)] := hl
  refine lv_aload_n hx hb dX1_keep_0 rfl (lv_at hl 0 rfl) ?_
  refine lv_aload_n hx hb dX1_keep_1 rfl (lv_at hl 0 rfl) ?_
  refine va_get (D := D) (ci := 1) (v := .int 0) (C := RX1) (T := TX1) (N := 3) hx hb hts inX1 hown hK hP 0 rfl rfl 1 (by decide) (hts _ tw_314) (fun _ h9 => h9) rfl dX1_keep_2 ?_
  refine lv_iconst (v := 1) hx hb dX1_keep_5 (by decide) ?_
  refine lv_iadd hx hb dX1_keep_6 ?_
  refine tI (y := 1) (by decide) ?_
  refine lv_bipush (v := 9) hx hb dX1_keep_7 (by decide) ?_
  refine lv_irem hx hb dX1_keep_9 (by decide) ?_
  refine tI (y := 1) (by decide) ?_
  refine va_put (D := D) (ci := 1) (v := .int 1) (ty := .int) (C := RX1) (T := TX1) (N := 3) hx hb hts inX1 tyX1 tyX1_ok nmX1 hown hK hP hD hS 0 rfl rfl 1 (by decide) (hts _ tw_314) (fun _ h9 => h9) rfl (by decide +kernel) rfl rfl (Nat.le_of_ble_eq_true rfl) dX1_keep_10 (fun H locs hP hD hS => ?_)
  have hP : va_P D classes [(hi, .inr (1, [.ref ha, .int 1, .int 0]))] H := hP
  have hD : va_D A [(hi, .inr (1, [.ref ha, .int 1, .int 0]))] := hD
  refine lv_aload_n hx hb dX1_keep_13 rfl (lv_at hl 0 rfl) ?_
  refine lv_bipush (v := 8) hx hb dX1_keep_14 (by decide) ?_
  refine lv_aload_n hx hb dX1_keep_16 rfl (lv_at hl 0 rfl) ?_
  refine va_get (D := D) (ci := 1) (v := .int 0) (C := RX1) (T := TX1) (N := 3) hx hb hts inX1 hown hK hP 0 rfl rfl 2 (by decide) (hts _ tw_315) (fun _ h9 => h9) rfl dX1_keep_17 ?_
  refine lv_iconst (v := 1) hx hb dX1_keep_20 (by decide) ?_
  refine lv_iadd hx hb dX1_keep_21 ?_
  refine tI (y := 1) (by decide) ?_
  refine va_mmin hx hb (hml.trans hl.1.symm) hown (hts _ tw_623) (hts _ tw_486) (hts _ tw_16) (hts _ tw_487) (Nat.le_of_ble_eq_true rfl) (Nat.le_of_ble_eq_true rfl) (Nat.le_of_ble_eq_true rfl) (Nat.le_of_ble_eq_true rfl) dX1_keep_22 ?_
  refine tI (y := 1) (by decide) ?_
  refine va_put (D := D) (ci := 1) (v := .int 1) (ty := .int) (C := RX1) (T := TX1) (N := 3) hx hb hts inX1 tyX1 tyX1_ok nmX1 hown hK hP hD hS 0 rfl rfl 2 (by decide) (hts _ tw_315) (fun _ h9 => h9) rfl (by decide +kernel) rfl rfl (Nat.le_of_ble_eq_true rfl) dX1_keep_25 (fun H locs hP hD hS => ?_)
  have hP : va_P D classes [(hi, .inr (1, [.ref ha, .int 1, .int 1]))] H := hP
  have hD : va_D A [(hi, .inr (1, [.ref ha, .int 1, .int 1]))] := hD
  have hP9 : va_P D classes [(hi, .inr (1, [.ref ha, .int 1, .int 1]))] H := subP hP [0] rfl
  have hD9 : va_D A [(hi, .inr (1, [.ref ha, .int 1, .int 1]))] := hD.sub [0] (by decide) rfl
  exact W.vret hx hb hr (fun t ht hW => ⟨⟨(), rfl, trivial, by rw [ht]; exact hP9, va_K.moved hW.alike hK, hD9⟩, hS.F ht⟩) hS.2.2 dX1_keep_28
set_option maxHeartbeats 4000000 in
set_option maxRecDepth 100000 in
theorem c_H_forget (l : Launch) (D : va_G) (cy : Nat → ClassId) (z : Nat → Nat) (sz : Nat) (hi : Nat) (ha : Nat) : Met l yX1_forget (Cond.code yX1_forget cX1_forget 1 none :: gT) ({ frames := 0, cells := 0, slots := 0, locals := 200 } : Room) (va_Pc [.ref hi] (PRE D cy z [(hi, .inr (1, [.ref ha, .int 0, .int 0]))] sz)) (va_Qv (fun (u : Unit) => True) (BB D cy (va_A [(hi, .inr (1, [.ref ha, .int 0, .int 0]))] sz) (fun (u : Unit) => [(hi, .inr (1, [.ref ha, .int 0, .int 0]))])) (va_A [(hi, .inr (1, [.ref ha, .int 0, .int 0]))] sz)) 0 0 (va_A [(hi, .inr (1, [.ref ha, .int 0, .int 0]))] sz) := by
  refine Met.ofW (cc := cX1_forget) (maxL := 1) (ret := none) (by decide) rfl ?_
  intro p e s m args below meth c s₁ B hml hv
  obtain ⟨rfl, hsz, hP, hK, hD0, hSD⟩ := hv
  have hx := B.exec
  have hb := B.bytes
  have hr := B.returns
  have hlocks := B.notSynchronized
  have hts : ∀ w ∈ gT, w.before _ s = true := fun w h => atoms_spec (ws := Cond.code yX1_forget cX1_forget 1 none :: gT) B.pre w (List.mem_cons_of_mem _ h)
  have hown : s.vm.findClass RX1 = some m.cls := findClass_of_methodNamed B.named
  subst hsz
  have hD := hD0.self (sz := s.heap.size)
  generalize hAe : va_A [(hi, .inr (1, [.ref ha, .int 0, .int 0]))] s.heap.size = A at hD hSD ⊢
  have hA : ∀ q : Nat, s.heap.size ≤ q → A q := fun q h => by rw [← hAe]; exact Or.inr h
  have hS : va_S A s.heap s.heap [] := va_S.rf
  have hl := lv_entry ([.ref hi]) (n := 1) (Nat.le_of_ble_eq_true rfl)
  rw [lg_entry_eq]
  generalize (lg_sl ([.ref hi]) ++ List.replicate (1 - (lg_sl ([.ref hi])).length) Slot.unset).toArray = ls at hl ⊢
  have hl : lv_has ls 1 [(0, .ref hi)] := hl
  refine lv_aload_n hx hb dX1_forget_0 rfl (lv_at hl 0 rfl) ?_
  refine lv_iconst (v := 0) hx hb dX1_forget_1 (by decide) ?_
  refine va_put (D := D) (ci := 1) (v := .int 0) (ty := .int) (C := RX1) (T := TX1) (N := 3) hx hb hts inX1 tyX1 tyX1_ok nmX1 hown hK hP hD hS 0 rfl rfl 2 (by decide) (hts _ tw_315) (fun _ h9 => h9) rfl (by decide +kernel) rfl rfl (Nat.le_of_ble_eq_true rfl) dX1_forget_2 (fun H locs hP hD hS => ?_)
  have hP : va_P D classes [(hi, .inr (1, [.ref ha, .int 0, .int 0]))] H := hP
  have hD : va_D A [(hi, .inr (1, [.ref ha, .int 0, .int 0]))] := hD
  have hP9 : va_P D classes [(hi, .inr (1, [.ref ha, .int 0, .int 0]))] H := subP hP [0] rfl
  have hD9 : va_D A [(hi, .inr (1, [.ref ha, .int 0, .int 0]))] := hD.sub [0] (by decide) rfl
  exact W.vret hx hb hr (fun t ht hW => ⟨⟨(), rfl, trivial, by rw [ht]; exact hP9, va_K.moved hW.alike hK, hD9⟩, hS.F ht⟩) hS.2.2 dX1_forget_5
set_option maxHeartbeats 4000000 in
set_option maxRecDepth 100000 in
theorem c_H_giveBack (l : Launch) (D : va_G) (cy : Nat → ClassId) (z : Nat → Nat) (sz : Nat) (hi : Nat) (ha : Nat) (b : Nat) : Met l yX1_giveBack (Cond.code yX1_giveBack cX1_giveBack 2 (some .int) :: gT) ({ frames := 0, cells := 0, slots := 0, locals := 200 } : Room) (va_Pc [.ref hi, .ref b] (PRE D cy z [(hi, .inr (1, [.ref ha, .int 0, .int 0]))] sz)) (va_Qi (fun (r : Int32) (u : Unit) => r = (-1)) (BB D cy (va_A [(hi, .inr (1, [.ref ha, .int 0, .int 0]))] sz) (fun (u : Unit) => [(hi, .inr (1, [.ref ha, .int 0, .int 0]))])) (va_A [(hi, .inr (1, [.ref ha, .int 0, .int 0]))] sz)) 0 0 (va_A [(hi, .inr (1, [.ref ha, .int 0, .int 0]))] sz) := by
  refine Met.ofW (cc := cX1_giveBack) (maxL := 2) (ret := (some .int)) (by decide) rfl ?_
  intro p e s m args below meth c s₁ B hml hv
  obtain ⟨rfl, hsz, hP, hK, hD0, hSD⟩ := hv
  have hx := B.exec
  have hb := B.bytes
  have hr := B.returns
  have hlocks := B.notSynchronized
  have hts : ∀ w ∈ gT, w.before _ s = true := fun w h => atoms_spec (ws := Cond.code yX1_giveBack cX1_giveBack 2 (some .int) :: gT) B.pre w (List.mem_cons_of_mem _ h)
  have hown : s.vm.findClass RX1 = some m.cls := findClass_of_methodNamed B.named
  subst hsz
  have hD := hD0.self (sz := s.heap.size)
  generalize hAe : va_A [(hi, .inr (1, [.ref ha, .int 0, .int 0]))] s.heap.size = A at hD hSD ⊢
  have hA : ∀ q : Nat, s.heap.size ≤ q → A q := fun q h => by rw [← hAe]; exact Or.inr h
  have hS : va_S A s.heap s.heap [] := va_S.rf
  have hl := lv_entry ([.ref hi, .ref b]) (n := 2) (Nat.le_of_ble_eq_true rfl)
  rw [lg_entry_eq]
  generalize (lg_sl ([.ref hi, .ref b]) ++ List.replicate (2 - (lg_sl ([.ref hi, .ref b])).length) Slot.unset).toArray = ls at hl ⊢
  have hl : lv_has ls 2 [(0, .ref hi), (1, .ref b)] := hl
  refine lv_aload_n hx hb dX1_giveBack_0 rfl (lv_at hl 0 rfl) ?_
  refine va_get (D := D) (ci := 1) (v := .int 0) (C := RX1) (T := TX1) (N := 3) hx hb hts inX1 hown hK hP 0 rfl rfl 2 (by decide) (hts _ tw_315) (fun _ h9 => h9) rfl dX1_giveBack_1 ?_
  refine lv_if_ne (tgt := 9) hx hb dX1_giveBack_4 (by decide) (fun c9 => absurd c9 (by decide)) (fun _ => ?_)
  refine lv_iconst (v := (-1)) hx hb dX1_giveBack_7 (by decide) ?_
  have hP9 : va_P D classes [(hi, .inr (1, [.ref ha, .int 0, .int 0]))] s.heap := subP hP [0] rfl
  have hD9 : va_D A [(hi, .inr (1, [.ref ha, .int 0, .int 0]))] := hD.sub [0] (by decide) rfl
  exact W.iret (v := (-1)) hx hb hr (fun t ht hW => ⟨⟨(-1), (), rfl, rfl, by rw [ht]; exact hP9, va_K.moved hW.alike hK, hD9⟩, hS.F ht⟩) hS.2.2 dX1_giveBack_8
set_option maxHeartbeats 4000000 in
set_option maxRecDepth 100000 in
theorem c_T_refuse (l : Launch) (D : va_G) (cy : Nat → ClassId) (z : Nat → Nat) (sz : Nat) (tp : Nat) (t1 : Nat) (t2 : Nat) (sp : Int32) (bg : Int32) (af : Int32) (kd : Int32) (nm : Int64) (nb : Int32) (pl : Int32) (v : Int32) : Met l yX7_refuse (Cond.code yX7_refuse cX7_refuse 2 none :: gT) ({ frames := 0, cells := 0, slots := 0, locals := 200 } : Room) (va_Pc [.ref tp, .int v] (PRE D cy z [(tp, .inr (7, [.ref t1, .ref t2, .int 0, .int sp, .int 0, .int bg, .int af, .int kd, .long nm, .int nb, .int 0, .int pl]))] sz)) (va_Qv (fun (u : Unit) => True) (BB D cy (va_A [(tp, .inr (7, [.ref t1, .ref t2, .int 0, .int sp, .int 0, .int bg, .int af, .int kd, .long nm, .int nb, .int 0, .int pl]))] sz) (fun (u : Unit) => [(tp, .inr (7, [.ref t1, .ref t2, .int 0, .int sp, .int 0, .int bg, .int af, .int kd, .long nm, .int nb, .int v, .int bg]))])) (va_A [(tp, .inr (7, [.ref t1, .ref t2, .int 0, .int sp, .int 0, .int bg, .int af, .int kd, .long nm, .int nb, .int 0, .int pl]))] sz)) 0 0 (va_A [(tp, .inr (7, [.ref t1, .ref t2, .int 0, .int sp, .int 0, .int bg, .int af, .int kd, .long nm, .int nb, .int 0, .int pl]))] sz) := by
  refine Met.ofW (cc := cX7_refuse) (maxL := 2) (ret := none) (by decide) rfl ?_
  intro p e s m args below meth c s₁ B hml hv
  obtain ⟨rfl, hsz, hP, hK, hD0, hSD⟩ := hv
  have hx := B.exec
  have hb := B.bytes
  have hr := B.returns
  have hlocks := B.notSynchronized
  have hts : ∀ w ∈ gT, w.before _ s = true := fun w h => atoms_spec (ws := Cond.code yX7_refuse cX7_refuse 2 none :: gT) B.pre w (List.mem_cons_of_mem _ h)
  have hown : s.vm.findClass RX7 = some m.cls := findClass_of_methodNamed B.named
  subst hsz
  have hD := hD0.self (sz := s.heap.size)
  generalize hAe : va_A [(tp, .inr (7, [.ref t1, .ref t2, .int 0, .int sp, .int 0, .int bg, .int af, .int kd, .long nm, .int nb, .int 0, .int pl]))] s.heap.size = A at hD hSD ⊢
  have hA : ∀ q : Nat, s.heap.size ≤ q → A q := fun q h => by rw [← hAe]; exact Or.inr h
  have hS : va_S A s.heap s.heap [] := va_S.rf
  have hl := lv_entry ([.ref tp, .int v]) (n := 2) (Nat.le_of_ble_eq_true rfl)
  rw [lg_entry_eq]
  generalize (lg_sl ([.ref tp, .int v]) ++ List.replicate (2 - (lg_sl ([.ref tp, .int v])).length) Slot.unset).toArray = ls at hl ⊢
  have hl : lv_has ls 2 [(0, .ref tp), (1, .int v)] := hl
  refine lv_aload_n hx hb dX7_refuse_0 rfl (lv_at hl 0 rfl) ?_
  refine va_get (D := D) (ci := 7) (v := .int 0) (C := RX7) (T := TX7) (N := 12) hx hb hts inX7 hown hK hP 0 rfl rfl 10 (by decide) (hts _ tw_104) (fun _ h9 => h9) rfl dX7_refuse_1 ?_
  refine lv_if_ne (tgt := 20) hx hb dX7_refuse_4 (by decide) (fun c9 => absurd c9 (by decide)) (fun _ => ?_)
  refine lv_aload_n hx hb dX7_refuse_7 rfl (lv_at hl 0 rfl) ?_
  refine lv_iload_n hx hb dX7_refuse_8 rfl (lv_at hl 1 rfl) ?_
  refine va_put (D := D) (ci := 7) (v := .int v) (ty := .int) (C := RX7) (T := TX7) (N := 12) hx hb hts inX7 tyX7 tyX7_ok nmX7 hown hK hP hD hS 0 rfl rfl 10 (by decide) (hts _ tw_104) (fun _ h9 => h9) rfl (by decide +kernel) rfl rfl (Nat.le_of_ble_eq_true rfl) dX7_refuse_9 (fun H locs hP hD hS => ?_)
  have hP : va_P D classes [(tp, .inr (7, [.ref t1, .ref t2, .int 0, .int sp, .int 0, .int bg, .int af, .int kd, .long nm, .int nb, .int v, .int pl]))] H := hP
  have hD : va_D A [(tp, .inr (7, [.ref t1, .ref t2, .int 0, .int sp, .int 0, .int bg, .int af, .int kd, .long nm, .int nb, .int v, .int pl]))] := hD
  refine lv_aload_n hx hb dX7_refuse_12 rfl (lv_at hl 0 rfl) ?_
  refine lv_aload_n hx hb dX7_refuse_13 rfl (lv_at hl 0 rfl) ?_
  refine va_get (D := D) (ci := 7) (v := .int bg) (C := RX7) (T := TX7) (N := 12) hx hb hts inX7 hown hK hP 0 rfl rfl 5 (by decide) (hts _ tw_93) (fun _ h9 => h9) rfl dX7_refuse_14 ?_
  refine va_put (D := D) (ci := 7) (v := .int bg) (ty := .int) (C := RX7) (T := TX7) (N := 12) hx hb hts inX7 tyX7 tyX7_ok nmX7 hown hK hP hD hS 0 rfl rfl 11 (by decide) (hts _ tw_108) (fun _ h9 => h9) rfl (by decide +kernel) rfl rfl (Nat.le_of_ble_eq_true rfl) dX7_refuse_17 (fun H locs hP hD hS => ?_)
  have hP : va_P D classes [(tp, .inr (7, [.ref t1, .ref t2, .int 0, .int sp, .int 0, .int bg, .int af, .int kd, .long nm, .int nb, .int v, .int bg]))] H := hP
  have hD : va_D A [(tp, .inr (7, [.ref t1, .ref t2, .int 0, .int sp, .int 0, .int bg, .int af, .int kd, .long nm, .int nb, .int v, .int bg]))] := hD
  have hP9 : va_P D classes [(tp, .inr (7, [.ref t1, .ref t2, .int 0, .int sp, .int 0, .int bg, .int af, .int kd, .long nm, .int nb, .int v, .int bg]))] H := subP hP [0] rfl
  have hD9 : va_D A [(tp, .inr (7, [.ref t1, .ref t2, .int 0, .int sp, .int 0, .int bg, .int af, .int kd, .long nm, .int nb, .int v, .int bg]))] := hD.sub [0] (by decide) rfl
  exact W.vret hx hb hr (fun t ht hW => ⟨⟨(), rfl, trivial, by rw [ht]; exact hP9, va_K.moved hW.alike hK, hD9⟩, hS.F ht⟩) hS.2.2 dX7_refuse_20
set_option maxHeartbeats 4000000 in
set_option maxRecDepth 100000 in
theorem c_T_pass (l : Launch) (D : va_G) (cy : Nat → ClassId) (z : Nat → Nat) (sz : Nat) (tp : Nat) (t1 : Nat) (t2 : Nat) (kd : Int32) (nm : Int64) (nb : Int32) (bg : Int32) : Met l yX7_pass (Cond.code yX7_pass cX7_pass 2 none :: gT) ({ frames := 0, cells := 0, slots := 0, locals := 200 } : Room) (va_Pc [.ref tp] (PRE D cy z [(tp, .inr (7, [.ref t1, .ref t2, .int 0, .int 0, .int 0, .int bg, .int 0, .int kd, .long nm, .int nb, .int 0, .int 0]))] sz)) (va_Qv (fun (u : Unit) => True) (BB D cy (va_A [(tp, .inr (7, [.ref t1, .ref t2, .int 0, .int 0, .int 0, .int bg, .int 0, .int kd, .long nm, .int nb, .int 0, .int 0]))] sz) (fun (u : Unit) => [(tp, .inr (7, [.ref t1, .ref t2, .int 0, .int 0, .int 0, .int 0, .int 0, .int 0, .long nm, .int nb, .int 0, .int 0]))])) (va_A [(tp, .inr (7, [.ref t1, .ref t2, .int 0, .int 0, .int 0, .int bg, .int 0, .int kd, .long nm, .int nb, .int 0, .int 0]))] sz)) 0 0 (va_A [(tp, .inr (7, [.ref t1, .ref t2, .int 0, .int 0, .int 0, .int bg, .int 0, .int kd, .long nm, .int nb, .int 0, .int 0]))] sz) := by
  refine Met.ofW (cc := cX7_pass) (maxL := 2) (ret := none) (by decide) rfl ?_
  intro p e s m args below meth c s₁ B hml hv
  obtain ⟨rfl, hsz, hP, hK, hD0, hSD⟩ := hv
  have hx := B.exec
  have hb := B.bytes
  have hr := B.returns
  have hlocks := B.notSynchronized
  have hts : ∀ w ∈ gT, w.before _ s = true := fun w h => atoms_spec (ws := Cond.code yX7_pass cX7_pass 2 none :: gT) B.pre w (List.mem_cons_of_mem _ h)
  have hown : s.vm.findClass RX7 = some m.cls := findClass_of_methodNamed B.named
  subst hsz
  have hD := hD0.self (sz := s.heap.size)
  generalize hAe : va_A [(tp, .inr (7, [.ref t1, .ref t2, .int 0, .int 0, .int 0, .int bg, .int 0, .int kd, .long nm, .int nb, .int 0, .int 0]))] s.heap.size = A at hD hSD ⊢
  have hA : ∀ q : Nat, s.heap.size ≤ q → A q := fun q h => by rw [← hAe]; exact Or.inr h
  have hS : va_S A s.heap s.heap [] := va_S.rf
  have hl := lv_entry ([.ref tp]) (n := 2) (Nat.le_of_ble_eq_true rfl)
  rw [lg_entry_eq]
  generalize (lg_sl ([.ref tp]) ++ List.replicate (2 - (lg_sl ([.ref tp])).length) Slot.unset).toArray = ls at hl ⊢
  have hl : lv_has ls 2 [(0, .ref tp)] := hl
  refine lv_aload_n hx hb dX7_pass_0 rfl (lv_at hl 0 rfl) ?_
  refine va_get (D := D) (ci := 7) (v := .int 0) (C := RX7) (T := TX7) (N := 12) hx hb hts inX7 hown hK hP 0 rfl rfl 10 (by decide) (hts _ tw_104) (fun _ h9 => h9) rfl dX7_pass_1 ?_
  refine lv_if_eq (tgt := 8) hx hb dX7_pass_4 (by decide) (fun _ => ?_) (fun c9 => absurd (by decide) c9)
  refine lv_aload_n hx hb dX7_pass_8 rfl (lv_at hl 0 rfl) ?_
  refine lv_aload_n hx hb dX7_pass_9 rfl (lv_at hl 0 rfl) ?_
  refine va_get (D := D) (ci := 7) (v := .int 0) (C := RX7) (T := TX7) (N := 12) hx hb hts inX7 hown hK hP 0 rfl rfl 6 (by decide) (hts _ tw_94) (fun _ h9 => h9) rfl dX7_pass_10 ?_
  refine va_put (D := D) (ci := 7) (v := .int 0) (ty := .int) (C := RX7) (T := TX7) (N := 12) hx hb hts inX7 tyX7 tyX7_ok nmX7 hown hK hP hD hS 0 rfl rfl 5 (by decide) (hts _ tw_93) (fun _ h9 => h9) rfl (by decide +kernel) rfl rfl (Nat.le_of_ble_eq_true rfl) dX7_pass_13 (fun H locs hP hD hS => ?_)
  have hP : va_P D classes [(tp, .inr (7, [.ref t1, .ref t2, .int 0, .int 0, .int 0, .int 0, .int 0, .int kd, .long nm, .int nb, .int 0, .int 0]))] H := hP
  have hD : va_D A [(tp, .inr (7, [.ref t1, .ref t2, .int 0, .int 0, .int 0, .int 0, .int 0, .int kd, .long nm, .int nb, .int 0, .int 0]))] := hD
  refine lv_aload_n hx hb dX7_pass_16 rfl (lv_at hl 0 rfl) ?_
  refine va_get (D := D) (ci := 7) (v := .int 0) (C := RX7) (T := TX7) (N := 12) hx hb hts inX7 hown hK hP 0 rfl rfl 5 (by decide) (hts _ tw_93) (fun _ h9 => h9) rfl dX7_pass_17 ?_
  refine lv_aload_n hx hb dX7_pass_20 rfl (lv_at hl 0 rfl) ?_
  refine va_get (D := D) (ci := 7) (v := .int 0) (C := RX7) (T := TX7) (N := 12) hx hb hts inX7 hown hK hP 0 rfl rfl 3 (by decide) (hts _ tw_91) (fun _ h9 => h9) rfl dX7_pass_21 ?_
  refine lv_icmp_ge (tgt := 55) hx hb dX7_pass_24 (by decide) (fun _ => ?_) (fun c9 => absurd (by decide) c9)
  refine lv_aload_n hx hb dX7_pass_55 rfl (lv_at hl 0 rfl) ?_
  refine va_get (D := D) (ci := 7) (v := .int 0) (C := RX7) (T := TX7) (N := 12) hx hb hts inX7 hown hK hP 0 rfl rfl 5 (by decide) (hts _ tw_93) (fun _ h9 => h9) rfl dX7_pass_56 ?_
  refine lv_aload_n hx hb dX7_pass_59 rfl (lv_at hl 0 rfl) ?_
  refine va_get (D := D) (ci := 7) (v := .int 0) (C := RX7) (T := TX7) (N := 12) hx hb hts inX7 hown hK hP 0 rfl rfl 3 (by decide) (hts _ tw_91) (fun _ h9 => h9) rfl dX7_pass_60 ?_
  refine lv_icmp_lt (tgt := 80) hx hb dX7_pass_63 (by decide) (fun c9 => absurd c9 (by decide)) (fun _ => ?_)
  refine lv_aload_n hx hb dX7_pass_66 rfl (lv_at hl 0 rfl) ?_
  refine lv_aload_n hx hb dX7_pass_67 rfl (lv_at hl 0 rfl) ?_
  refine va_get (D := D) (ci := 7) (v := .int 0) (C := RX7) (T := TX7) (N := 12) hx hb hts inX7 hown hK hP 0 rfl rfl 3 (by decide) (hts _ tw_91) (fun _ h9 => h9) rfl dX7_pass_68 ?_
  refine va_put (D := D) (ci := 7) (v := .int 0) (ty := .int) (C := RX7) (T := TX7) (N := 12) hx hb hts inX7 tyX7 tyX7_ok nmX7 hown hK hP hD hS 0 rfl rfl 5 (by decide) (hts _ tw_93) (fun _ h9 => h9) rfl (by decide +kernel) rfl rfl (Nat.le_of_ble_eq_true rfl) dX7_pass_71 (fun H locs hP hD hS => ?_)
  have hP : va_P D classes [(tp, .inr (7, [.ref t1, .ref t2, .int 0, .int 0, .int 0, .int 0, .int 0, .int kd, .long nm, .int nb, .int 0, .int 0]))] H := hP
  have hD : va_D A [(tp, .inr (7, [.ref t1, .ref t2, .int 0, .int 0, .int 0, .int 0, .int 0, .int kd, .long nm, .int nb, .int 0, .int 0]))] := hD
  refine lv_aload_n hx hb dX7_pass_74 rfl (lv_at hl 0 rfl) ?_
  refine lv_iconst (v := 0) hx hb dX7_pass_75 (by decide) ?_
  refine va_put (D := D) (ci := 7) (v := .int 0) (ty := .int) (C := RX7) (T := TX7) (N := 12) hx hb hts inX7 tyX7 tyX7_ok nmX7 hown hK hP hD hS 0 rfl rfl 7 (by decide) (hts _ tw_98) (fun _ h9 => h9) rfl (by decide +kernel) rfl rfl (Nat.le_of_ble_eq_true rfl) dX7_pass_76 (fun H locs hP hD hS => ?_)
  have hP : va_P D classes [(tp, .inr (7, [.ref t1, .ref t2, .int 0, .int 0, .int 0, .int 0, .int 0, .int 0, .long nm, .int nb, .int 0, .int 0]))] H := hP
  have hD : va_D A [(tp, .inr (7, [.ref t1, .ref t2, .int 0, .int 0, .int 0, .int 0, .int 0, .int 0, .long nm, .int nb, .int 0, .int 0]))] := hD
  have hP9 : va_P D classes [(tp, .inr (7, [.ref t1, .ref t2, .int 0, .int 0, .int 0, .int 0, .int 0, .int 0, .long nm, .int nb, .int 0, .int 0]))] H := subP hP [0] rfl
  have hD9 : va_D A [(tp, .inr (7, [.ref t1, .ref t2, .int 0, .int 0, .int 0, .int 0, .int 0, .int 0, .long nm, .int nb, .int 0, .int 0]))] := hD.sub [0] (by decide) rfl
  exact W.vret hx hb hr (fun t ht hW => ⟨⟨(), rfl, trivial, by rw [ht]; exact hP9, va_K.moved hW.alike hK, hD9⟩, hS.F ht⟩) hS.2.2 dX7_pass_79
set_option maxHeartbeats 4000000 in
set_option maxRecDepth 100000 in
theorem c_T_startText900 (l : Launch) (D : va_G) (cy : Nat → ClassId) (z : Nat → Nat) (sz : Nat) (tp : Nat) (t1 : Nat) (t2 : Nat) (sp : Int32) (tl : Int32) (bg : Int32) (af : Int32) (kd : Int32) (nm : Int64) (nb : Int32) (ft : Int32) (pl : Int32) : Met l yX7_startText (Cond.code yX7_startText cX7_startText 2 none :: gT) ({ frames := 2, cells := 0, slots := 0, locals := 400 } : Room) (va_Pc [.ref tp, .int 900] (PRE D cy z [(tp, .inr (7, [.ref t1, .ref t2, .int 0, .int sp, .int tl, .int bg, .int af, .int kd, .long nm, .int nb, .int ft, .int pl]))] sz)) (va_Qv (fun (u : Unit) => True) (BB D cy (va_A [(tp, .inr (7, [.ref t1, .ref t2, .int 0, .int sp, .int tl, .int bg, .int af, .int kd, .long nm, .int nb, .int ft, .int pl]))] sz) (fun (u : Unit) => [(tp, .inr (7, [.ref t1, .ref t2, .int 0, .int 0, .int 0, .int 0, .int 0, .int 0, .long nm, .int nb, .int 0, .int 0]))])) (va_A [(tp, .inr (7, [.ref t1, .ref t2, .int 0, .int sp, .int tl, .int bg, .int af, .int kd, .long nm, .int nb, .int ft, .int pl]))] sz)) 0 0 (va_A [(tp, .inr (7, [.ref t1, .ref t2, .int 0, .int sp, .int tl, .int bg, .int af, .int kd, .long nm, .int nb, .int ft, .int pl]))] sz) := by
  refine Met.ofW (cc := cX7_startText) (maxL := 2) (ret := none) (by decide) rfl ?_
  intro p e s m args below meth c s₁ B hml hv
  obtain ⟨rfl, hsz, hP, hK, hD0, hSD⟩ := hv
  have hx := B.exec
  have hb := B.bytes
  have hr := B.returns
  have hlocks := B.notSynchronized
  have hts : ∀ w ∈ gT, w.before _ s = true := fun w h => atoms_spec (ws := Cond.code yX7_startText cX7_startText 2 none :: gT) B.pre w (List.mem_cons_of_mem _ h)
  have hown : s.vm.findClass RX7 = some m.cls := findClass_of_methodNamed B.named
  subst hsz
  have hD := hD0.self (sz := s.heap.size)
  generalize hAe : va_A [(tp, .inr (7, [.ref t1, .ref t2, .int 0, .int sp, .int tl, .int bg, .int af, .int kd, .long nm, .int nb, .int ft, .int pl]))] s.heap.size = A at hD hSD ⊢
  have hA : ∀ q : Nat, s.heap.size ≤ q → A q := fun q h => by rw [← hAe]; exact Or.inr h
  have hS : va_S A s.heap s.heap [] := va_S.rf
  have hl := lv_entry ([.ref tp, .int 900]) (n := 2) (Nat.le_of_ble_eq_true rfl)
  rw [lg_entry_eq]
  generalize (lg_sl ([.ref tp, .int 900]) ++ List.replicate (2 - (lg_sl ([.ref tp, .int 900])).length) Slot.unset).toArray = ls at hl ⊢
  have hl : lv_has ls 2 [(0, .ref tp), (1, .int 900)] := hl
  refine lv_aload_n hx hb dX7_startText_0 rfl (lv_at hl 0 rfl) ?_
  refine lv_aload_n hx hb dX7_startText_1 rfl (lv_at hl 0 rfl) ?_
  refine va_get (D := D) (ci := 7) (v := .int 0) (C := RX7) (T := TX7) (N := 12) hx hb hts inX7 hown hK hP 0 rfl rfl 2 (by decide) (hts _ tw_89) (fun _ h9 => h9) rfl dX7_startText_2 ?_
  refine lv_iload_n hx hb dX7_startText_5 rfl (lv_at hl 1 rfl) ?_
  refine lv_icmp_le (tgt := 13) hx hb dX7_startText_6 (by decide) (fun _ => ?_) (fun c9 => absurd (by decide) c9)
  refine lv_iconst (v := 0) hx hb dX7_startText_13 (by decide) ?_
  refine va_put (D := D) (ci := 7) (v := .int 0) (ty := .boolean) (C := RX7) (T := TX7) (N := 12) hx hb hts inX7 tyX7 tyX7_ok nmX7 hown hK hP hD hS 0 rfl rfl 4 (by decide) (hts _ tw_92) (fun _ h9 => h9) rfl (by decide +kernel) rfl rfl (Nat.le_of_ble_eq_true rfl) dX7_startText_14 (fun H locs hP hD hS => ?_)
  have hP : va_P D classes [(tp, .inr (7, [.ref t1, .ref t2, .int 0, .int sp, .int 0, .int bg, .int af, .int kd, .long nm, .int nb, .int ft, .int pl]))] H := hP
  have hD : va_D A [(tp, .inr (7, [.ref t1, .ref t2, .int 0, .int sp, .int 0, .int bg, .int af, .int kd, .long nm, .int nb, .int ft, .int pl]))] := hD
  refine lv_aload_n hx hb dX7_startText_17 rfl (lv_at hl 0 rfl) ?_
  refine lv_aload_n hx hb dX7_startText_18 rfl (lv_at hl 0 rfl) ?_
  refine va_get (D := D) (ci := 7) (v := .int 0) (C := RX7) (T := TX7) (N := 12) hx hb hts inX7 hown hK hP 0 rfl rfl 4 (by decide) (hts _ tw_92) (fun _ h9 => h9) rfl dX7_startText_19 ?_
  refine lv_if_eq (tgt := 29) hx hb dX7_startText_22 (by decide) (fun _ => ?_) (fun c9 => absurd (by decide) c9)
  refine lv_aload_n hx hb dX7_startText_29 rfl (lv_at hl 0 rfl) ?_
  refine va_get (D := D) (ci := 7) (v := .int 0) (C := RX7) (T := TX7) (N := 12) hx hb hts inX7 hown hK hP 0 rfl rfl 2 (by decide) (hts _ tw_89) (fun _ h9 => h9) rfl dX7_startText_30 ?_
  refine va_put (D := D) (ci := 7) (v := .int 0) (ty := .int) (C := RX7) (T := TX7) (N := 12) hx hb hts inX7 tyX7 tyX7_ok nmX7 hown hK hP hD hS 0 rfl rfl 3 (by decide) (hts _ tw_91) (fun _ h9 => h9) rfl (by decide +kernel) rfl rfl (Nat.le_of_ble_eq_true rfl) dX7_startText_33 (fun H locs hP hD hS => ?_)
  have hP : va_P D classes [(tp, .inr (7, [.ref t1, .ref t2, .int 0, .int 0, .int 0, .int bg, .int af, .int kd, .long nm, .int nb, .int ft, .int pl]))] H := hP
  have hD : va_D A [(tp, .inr (7, [.ref t1, .ref t2, .int 0, .int 0, .int 0, .int bg, .int af, .int kd, .long nm, .int nb, .int ft, .int pl]))] := hD
  refine lv_aload_n hx hb dX7_startText_36 rfl (lv_at hl 0 rfl) ?_
  refine lv_iconst (v := 0) hx hb dX7_startText_37 (by decide) ?_
  refine va_put (D := D) (ci := 7) (v := .int 0) (ty := .int) (C := RX7) (T := TX7) (N := 12) hx hb hts inX7 tyX7 tyX7_ok nmX7 hown hK hP hD hS 0 rfl rfl 6 (by decide) (hts _ tw_94) (fun _ h9 => h9) rfl (by decide +kernel) rfl rfl (Nat.le_of_ble_eq_true rfl) dX7_startText_38 (fun H locs hP hD hS => ?_)
  have hP : va_P D classes [(tp, .inr (7, [.ref t1, .ref t2, .int 0, .int 0, .int 0, .int bg, .int 0, .int kd, .long nm, .int nb, .int ft, .int pl]))] H := hP
  have hD : va_D A [(tp, .inr (7, [.ref t1, .ref t2, .int 0, .int 0, .int 0, .int bg, .int 0, .int kd, .long nm, .int nb, .int ft, .int pl]))] := hD
  refine lv_aload_n hx hb dX7_startText_41 rfl (lv_at hl 0 rfl) ?_
  refine lv_iconst (v := 0) hx hb dX7_startText_42 (by decide) ?_
  refine va_put (D := D) (ci := 7) (v := .int 0) (ty := .int) (C := RX7) (T := TX7) (N := 12) hx hb hts inX7 tyX7 tyX7_ok nmX7 hown hK hP hD hS 0 rfl rfl 10 (by decide) (hts _ tw_104) (fun _ h9 => h9) rfl (by decide +kernel) rfl rfl (Nat.le_of_ble_eq_true rfl) dX7_startText_43 (fun H locs hP hD hS => ?_)
  have hP : va_P D classes [(tp, .inr (7, [.ref t1, .ref t2, .int 0, .int 0, .int 0, .int bg, .int 0, .int kd, .long nm, .int nb, .int 0, .int pl]))] H := hP
  have hD : va_D A [(tp, .inr (7, [.ref t1, .ref t2, .int 0, .int 0, .int 0, .int bg, .int 0, .int kd, .long nm, .int nb, .int 0, .int pl]))] := hD
  refine lv_aload_n hx hb dX7_startText_46 rfl (lv_at hl 0 rfl) ?_
  refine lv_iconst (v := 0) hx hb dX7_startText_47 (by decide) ?_
  refine va_put (D := D) (ci := 7) (v := .int 0) (ty := .int) (C := RX7) (T := TX7) (N := 12) hx hb hts inX7 tyX7 tyX7_ok nmX7 hown hK hP hD hS 0 rfl rfl 11 (by decide) (hts _ tw_108) (fun _ h9 => h9) rfl (by decide +kernel) rfl rfl (Nat.le_of_ble_eq_true rfl) dX7_startText_48 (fun H locs hP hD hS => ?_)
  have hP : va_P D classes [(tp, .inr (7, [.ref t1, .ref t2, .int 0, .int 0, .int 0, .int bg, .int 0, .int kd, .long nm, .int nb, .int 0, .int 0]))] H := hP
  have hD : va_D A [(tp, .inr (7, [.ref t1, .ref t2, .int 0, .int 0, .int 0, .int bg, .int 0, .int kd, .long nm, .int nb, .int 0, .int 0]))] := hD
  refine lv_aload_n hx hb dX7_startText_51 rfl (lv_at hl 0 rfl) ?_
  refine endv (wr := []) (va_runV (As := []) (rest := []) ⟨hx, hb, hml, hown, hts⟩ (c_T_pass l D cy z H.size tp t1 t2 kd nm nb bg) (cwV 0 hts (gV tw_424 tw_425 tw_426 tw_2 tw_427) rfl rfl rfl (by decide +kernel) ⟨Nat.le_of_ble_eq_true rfl, Nat.le_of_ble_eq_true rfl⟩) (preV hP hD hK hSD hS hA [0] rfl (by decide) (q := (RX7, TX7, 12)) (ci := 7) (q0 := 0) rfl rfl) rfl rfl hl.1 rfl (lv_room (Nat.le_of_ble_eq_true rfl)) dX7_startText_52 ⟨Nat.le_of_ble_eq_true rfl, Nat.le_of_ble_eq_true rfl⟩) hP hD hS hA [0] [] rfl rfl (by decide) (by decide) (fun u_1 H locs hw_2 hP hD hS => ?_)
  have hP : va_P D classes [(tp, .inr (7, [.ref t1, .ref t2, .int 0, .int 0, .int 0, .int 0, .int 0, .int 0, .long nm, .int nb, .int 0, .int 0]))] H := hP
  have hD : va_D A [(tp, .inr (7, [.ref t1, .ref t2, .int 0, .int 0, .int 0, .int 0, .int 0, .int 0, .long nm, .int nb, .int 0, .int 0]))] := hD
  have hP9 : va_P D classes [(tp, .inr (7, [.ref t1, .ref t2, .int 0, .int 0, .int 0, .int 0, .int 0, .int 0, .long nm, .int nb, .int 0, .int 0]))] H := subP hP [0] rfl
  have hD9 : va_D A [(tp, .inr (7, [.ref t1, .ref t2, .int 0, .int 0, .int 0, .int 0, .int 0, .int 0, .long nm, .int nb, .int 0, .int 0]))] := hD.sub [0] (by decide) rfl
  exact W.vret hx hb hr (fun t ht hW => ⟨⟨(), rfl, trivial, by rw [ht]; exact hP9, va_K.moved hW.alike hK, hD9⟩, hS.F ht⟩) hS.2.2 dX7_startText_55
set_option maxHeartbeats 4000000 in
set_option maxRecDepth 100000 in
theorem c_T_startText400 (l : Launch) (D : va_G) (cy : Nat → ClassId) (z : Nat → Nat) (sz : Nat) (tp : Nat) (t1 : Nat) (t2 : Nat) (sp : Int32) (tl : Int32) (bg : Int32) (af : Int32) (kd : Int32) (nm : Int64) (nb : Int32) (ft : Int32) (pl : Int32) : Met l yX7_startText (Cond.code yX7_startText cX7_startText 2 none :: gT) ({ frames := 2, cells := 0, slots := 0, locals := 400 } : Room) (va_Pc [.ref tp, .int 400] (PRE D cy z [(tp, .inr (7, [.ref t1, .ref t2, .int 0, .int sp, .int tl, .int bg, .int af, .int kd, .long nm, .int nb, .int ft, .int pl]))] sz)) (va_Qv (fun (u : Unit) => True) (BB D cy (va_A [(tp, .inr (7, [.ref t1, .ref t2, .int 0, .int sp, .int tl, .int bg, .int af, .int kd, .long nm, .int nb, .int ft, .int pl]))] sz) (fun (u : Unit) => [(tp, .inr (7, [.ref t1, .ref t2, .int 0, .int 0, .int 0, .int 0, .int 0, .int 0, .long nm, .int nb, .int 0, .int 0]))])) (va_A [(tp, .inr (7, [.ref t1, .ref t2, .int 0, .int sp, .int tl, .int bg, .int af, .int kd, .long nm, .int nb, .int ft, .int pl]))] sz)) 0 0 (va_A [(tp, .inr (7, [.ref t1, .ref t2, .int 0, .int sp, .int tl, .int bg, .int af, .int kd, .long nm, .int nb, .int ft, .int pl]))] sz) := by
  refine Met.ofW (cc := cX7_startText) (maxL := 2) (ret := none) (by decide) rfl ?_
  intro p e s m args below meth c s₁ B hml hv
  obtain ⟨rfl, hsz, hP, hK, hD0, hSD⟩ := hv
  have hx := B.exec
  have hb := B.bytes
  have hr := B.returns
  have hlocks := B.notSynchronized
  have hts : ∀ w ∈ gT, w.before _ s = true := fun w h => atoms_spec (ws := Cond.code yX7_startText cX7_startText 2 none :: gT) B.pre w (List.mem_cons_of_mem _ h)
  have hown : s.vm.findClass RX7 = some m.cls := findClass_of_methodNamed B.named
  subst hsz
  have hD := hD0.self (sz := s.heap.size)
  generalize hAe : va_A [(tp, .inr (7, [.ref t1, .ref t2, .int 0, .int sp, .int tl, .int bg, .int af, .int kd, .long nm, .int nb, .int ft, .int pl]))] s.heap.size = A at hD hSD ⊢
  have hA : ∀ q : Nat, s.heap.size ≤ q → A q := fun q h => by rw [← hAe]; exact Or.inr h
  have hS : va_S A s.heap s.heap [] := va_S.rf
  have hl := lv_entry ([.ref tp, .int 400]) (n := 2) (Nat.le_of_ble_eq_true rfl)
  rw [lg_entry_eq]
  generalize (lg_sl ([.ref tp, .int 400]) ++ List.replicate (2 - (lg_sl ([.ref tp, .int 400])).length) Slot.unset).toArray = ls at hl ⊢
  have hl : lv_has ls 2 [(0, .ref tp), (1, .int 400)] := hl
  refine lv_aload_n hx hb dX7_startText_0 rfl (lv_at hl 0 rfl) ?_
  refine lv_aload_n hx hb dX7_startText_1 rfl (lv_at hl 0 rfl) ?_
  refine va_get (D := D) (ci := 7) (v := .int 0) (C := RX7) (T := TX7) (N := 12) hx hb hts inX7 hown hK hP 0 rfl rfl 2 (by decide) (hts _ tw_89) (fun _ h9 => h9) rfl dX7_startText_2 ?_
  refine lv_iload_n hx hb dX7_startText_5 rfl (lv_at hl 1 rfl) ?_
  refine lv_icmp_le (tgt := 13) hx hb dX7_startText_6 (by decide) (fun _ => ?_) (fun c9 => absurd (by decide) c9)
  refine lv_iconst (v := 0) hx hb dX7_startText_13 (by decide) ?_
  refine va_put (D := D) (ci := 7) (v := .int 0) (ty := .boolean) (C := RX7) (T := TX7) (N := 12) hx hb hts inX7 tyX7 tyX7_ok nmX7 hown hK hP hD hS 0 rfl rfl 4 (by decide) (hts _ tw_92) (fun _ h9 => h9) rfl (by decide +kernel) rfl rfl (Nat.le_of_ble_eq_true rfl) dX7_startText_14 (fun H locs hP hD hS => ?_)
  have hP : va_P D classes [(tp, .inr (7, [.ref t1, .ref t2, .int 0, .int sp, .int 0, .int bg, .int af, .int kd, .long nm, .int nb, .int ft, .int pl]))] H := hP
  have hD : va_D A [(tp, .inr (7, [.ref t1, .ref t2, .int 0, .int sp, .int 0, .int bg, .int af, .int kd, .long nm, .int nb, .int ft, .int pl]))] := hD
  refine lv_aload_n hx hb dX7_startText_17 rfl (lv_at hl 0 rfl) ?_
  refine lv_aload_n hx hb dX7_startText_18 rfl (lv_at hl 0 rfl) ?_
  refine va_get (D := D) (ci := 7) (v := .int 0) (C := RX7) (T := TX7) (N := 12) hx hb hts inX7 hown hK hP 0 rfl rfl 4 (by decide) (hts _ tw_92) (fun _ h9 => h9) rfl dX7_startText_19 ?_
  refine lv_if_eq (tgt := 29) hx hb dX7_startText_22 (by decide) (fun _ => ?_) (fun c9 => absurd (by decide) c9)
  refine lv_aload_n hx hb dX7_startText_29 rfl (lv_at hl 0 rfl) ?_
  refine va_get (D := D) (ci := 7) (v := .int 0) (C := RX7) (T := TX7) (N := 12) hx hb hts inX7 hown hK hP 0 rfl rfl 2 (by decide) (hts _ tw_89) (fun _ h9 => h9) rfl dX7_startText_30 ?_
  refine va_put (D := D) (ci := 7) (v := .int 0) (ty := .int) (C := RX7) (T := TX7) (N := 12) hx hb hts inX7 tyX7 tyX7_ok nmX7 hown hK hP hD hS 0 rfl rfl 3 (by decide) (hts _ tw_91) (fun _ h9 => h9) rfl (by decide +kernel) rfl rfl (Nat.le_of_ble_eq_true rfl) dX7_startText_33 (fun H locs hP hD hS => ?_)
  have hP : va_P D classes [(tp, .inr (7, [.ref t1, .ref t2, .int 0, .int 0, .int 0, .int bg, .int af, .int kd, .long nm, .int nb, .int ft, .int pl]))] H := hP
  have hD : va_D A [(tp, .inr (7, [.ref t1, .ref t2, .int 0, .int 0, .int 0, .int bg, .int af, .int kd, .long nm, .int nb, .int ft, .int pl]))] := hD
  refine lv_aload_n hx hb dX7_startText_36 rfl (lv_at hl 0 rfl) ?_
  refine lv_iconst (v := 0) hx hb dX7_startText_37 (by decide) ?_
  refine va_put (D := D) (ci := 7) (v := .int 0) (ty := .int) (C := RX7) (T := TX7) (N := 12) hx hb hts inX7 tyX7 tyX7_ok nmX7 hown hK hP hD hS 0 rfl rfl 6 (by decide) (hts _ tw_94) (fun _ h9 => h9) rfl (by decide +kernel) rfl rfl (Nat.le_of_ble_eq_true rfl) dX7_startText_38 (fun H locs hP hD hS => ?_)
  have hP : va_P D classes [(tp, .inr (7, [.ref t1, .ref t2, .int 0, .int 0, .int 0, .int bg, .int 0, .int kd, .long nm, .int nb, .int ft, .int pl]))] H := hP
  have hD : va_D A [(tp, .inr (7, [.ref t1, .ref t2, .int 0, .int 0, .int 0, .int bg, .int 0, .int kd, .long nm, .int nb, .int ft, .int pl]))] := hD
  refine lv_aload_n hx hb dX7_startText_41 rfl (lv_at hl 0 rfl) ?_
  refine lv_iconst (v := 0) hx hb dX7_startText_42 (by decide) ?_
  refine va_put (D := D) (ci := 7) (v := .int 0) (ty := .int) (C := RX7) (T := TX7) (N := 12) hx hb hts inX7 tyX7 tyX7_ok nmX7 hown hK hP hD hS 0 rfl rfl 10 (by decide) (hts _ tw_104) (fun _ h9 => h9) rfl (by decide +kernel) rfl rfl (Nat.le_of_ble_eq_true rfl) dX7_startText_43 (fun H locs hP hD hS => ?_)
  have hP : va_P D classes [(tp, .inr (7, [.ref t1, .ref t2, .int 0, .int 0, .int 0, .int bg, .int 0, .int kd, .long nm, .int nb, .int 0, .int pl]))] H := hP
  have hD : va_D A [(tp, .inr (7, [.ref t1, .ref t2, .int 0, .int 0, .int 0, .int bg, .int 0, .int kd, .long nm, .int nb, .int 0, .int pl]))] := hD
  refine lv_aload_n hx hb dX7_startText_46 rfl (lv_at hl 0 rfl) ?_
  refine lv_iconst (v := 0) hx hb dX7_startText_47 (by decide) ?_
  refine va_put (D := D) (ci := 7) (v := .int 0) (ty := .int) (C := RX7) (T := TX7) (N := 12) hx hb hts inX7 tyX7 tyX7_ok nmX7 hown hK hP hD hS 0 rfl rfl 11 (by decide) (hts _ tw_108) (fun _ h9 => h9) rfl (by decide +kernel) rfl rfl (Nat.le_of_ble_eq_true rfl) dX7_startText_48 (fun H locs hP hD hS => ?_)
  have hP : va_P D classes [(tp, .inr (7, [.ref t1, .ref t2, .int 0, .int 0, .int 0, .int bg, .int 0, .int kd, .long nm, .int nb, .int 0, .int 0]))] H := hP
  have hD : va_D A [(tp, .inr (7, [.ref t1, .ref t2, .int 0, .int 0, .int 0, .int bg, .int 0, .int kd, .long nm, .int nb, .int 0, .int 0]))] := hD
  refine lv_aload_n hx hb dX7_startText_51 rfl (lv_at hl 0 rfl) ?_
  refine endv (wr := []) (va_runV (As := []) (rest := []) ⟨hx, hb, hml, hown, hts⟩ (c_T_pass l D cy z H.size tp t1 t2 kd nm nb bg) (cwV 0 hts (gV tw_424 tw_425 tw_426 tw_2 tw_427) rfl rfl rfl (by decide +kernel) ⟨Nat.le_of_ble_eq_true rfl, Nat.le_of_ble_eq_true rfl⟩) (preV hP hD hK hSD hS hA [0] rfl (by decide) (q := (RX7, TX7, 12)) (ci := 7) (q0 := 0) rfl rfl) rfl rfl hl.1 rfl (lv_room (Nat.le_of_ble_eq_true rfl)) dX7_startText_52 ⟨Nat.le_of_ble_eq_true rfl, Nat.le_of_ble_eq_true rfl⟩) hP hD hS hA [0] [] rfl rfl (by decide) (by decide) (fun u_1 H locs hw_2 hP hD hS => ?_)
  have hP : va_P D classes [(tp, .inr (7, [.ref t1, .ref t2, .int 0, .int 0, .int 0, .int 0, .int 0, .int 0, .long nm, .int nb, .int 0, .int 0]))] H := hP
  have hD : va_D A [(tp, .inr (7, [.ref t1, .ref t2, .int 0, .int 0, .int 0, .int 0, .int 0, .int 0, .long nm, .int nb, .int 0, .int 0]))] := hD
  have hP9 : va_P D classes [(tp, .inr (7, [.ref t1, .ref t2, .int 0, .int 0, .int 0, .int 0, .int 0, .int 0, .long nm, .int nb, .int 0, .int 0]))] H := subP hP [0] rfl
  have hD9 : va_D A [(tp, .inr (7, [.ref t1, .ref t2, .int 0, .int 0, .int 0, .int 0, .int 0, .int 0, .long nm, .int nb, .int 0, .int 0]))] := hD.sub [0] (by decide) rfl
  exact W.vret hx hb hr (fun t ht hW => ⟨⟨(), rfl, trivial, by rw [ht]; exact hP9, va_K.moved hW.alike hK, hD9⟩, hS.F ht⟩) hS.2.2 dX7_startText_55
set_option maxHeartbeats 4000000 in
set_option maxRecDepth 100000 in
theorem c_T_startText200 (l : Launch) (D : va_G) (cy : Nat → ClassId) (z : Nat → Nat) (sz : Nat) (tp : Nat) (t1 : Nat) (t2 : Nat) (sp : Int32) (tl : Int32) (bg : Int32) (af : Int32) (kd : Int32) (nm : Int64) (nb : Int32) (ft : Int32) (pl : Int32) : Met l yX7_startText (Cond.code yX7_startText cX7_startText 2 none :: gT) ({ frames := 2, cells := 0, slots := 0, locals := 400 } : Room) (va_Pc [.ref tp, .int 200] (PRE D cy z [(tp, .inr (7, [.ref t1, .ref t2, .int 0, .int sp, .int tl, .int bg, .int af, .int kd, .long nm, .int nb, .int ft, .int pl]))] sz)) (va_Qv (fun (u : Unit) => True) (BB D cy (va_A [(tp, .inr (7, [.ref t1, .ref t2, .int 0, .int sp, .int tl, .int bg, .int af, .int kd, .long nm, .int nb, .int ft, .int pl]))] sz) (fun (u : Unit) => [(tp, .inr (7, [.ref t1, .ref t2, .int 0, .int 0, .int 0, .int 0, .int 0, .int 0, .long nm, .int nb, .int 0, .int 0]))])) (va_A [(tp, .inr (7, [.ref t1, .ref t2, .int 0, .int sp, .int tl, .int bg, .int af, .int kd, .long nm, .int nb, .int ft, .int pl]))] sz)) 0 0 (va_A [(tp, .inr (7, [.ref t1, .ref t2, .int 0, .int sp, .int tl, .int bg, .int af, .int kd, .long nm, .int nb, .int ft, .int pl]))] sz) := by
  refine Met.ofW (cc := cX7_startText) (maxL := 2) (ret := none) (by decide) rfl ?_
  intro p e s m args below meth c s₁ B hml hv
  obtain ⟨rfl, hsz, hP, hK, hD0, hSD⟩ := hv
  have hx := B.exec
  have hb := B.bytes
  have hr := B.returns
  have hlocks := B.notSynchronized
  have hts : ∀ w ∈ gT, w.before _ s = true := fun w h => atoms_spec (ws := Cond.code yX7_startText cX7_startText 2 none :: gT) B.pre w (List.mem_cons_of_mem _ h)
  have hown : s.vm.findClass RX7 = some m.cls := findClass_of_methodNamed B.named
  subst hsz
  have hD := hD0.self (sz := s.heap.size)
  generalize hAe : va_A [(tp, .inr (7, [.ref t1, .ref t2, .int 0, .int sp, .int tl, .int bg, .int af, .int kd, .long nm, .int nb, .int ft, .int pl]))] s.heap.size = A at hD hSD ⊢
  have hA : ∀ q : Nat, s.heap.size ≤ q → A q := fun q h => by rw [← hAe]; exact Or.inr h
  have hS : va_S A s.heap s.heap [] := va_S.rf
  have hl := lv_entry ([.ref tp, .int 200]) (n := 2) (Nat.le_of_ble_eq_true rfl)
  rw [lg_entry_eq]
  generalize (lg_sl ([.ref tp, .int 200]) ++ List.replicate (2 - (lg_sl ([.ref tp, .int 200])).length) Slot.unset).toArray = ls at hl ⊢
  have hl : lv_has ls 2 [(0, .ref tp), (1, .int 200)] := hl
  refine lv_aload_n hx hb dX7_startText_0 rfl (lv_at hl 0 rfl) ?_
  refine lv_aload_n hx hb dX7_startText_1 rfl (lv_at hl 0 rfl) ?_
  refine va_get (D := D) (ci := 7) (v := .int 0) (C := RX7) (T := TX7) (N := 12) hx hb hts inX7 hown hK hP 0 rfl rfl 2 (by decide) (hts _ tw_89) (fun _ h9 => h9) rfl dX7_startText_2 ?_
  refine lv_iload_n hx hb dX7_startText_5 rfl (lv_at hl 1 rfl) ?_
  refine lv_icmp_le (tgt := 13) hx hb dX7_startText_6 (by decide) (fun _ => ?_) (fun c9 => absurd (by decide) c9)
  refine lv_iconst (v := 0) hx hb dX7_startText_13 (by decide) ?_
  refine va_put (D := D) (ci := 7) (v := .int 0) (ty := .boolean) (C := RX7) (T := TX7) (N := 12) hx hb hts inX7 tyX7 tyX7_ok nmX7 hown hK hP hD hS 0 rfl rfl 4 (by decide) (hts _ tw_92) (fun _ h9 => h9) rfl (by decide +kernel) rfl rfl (Nat.le_of_ble_eq_true rfl) dX7_startText_14 (fun H locs hP hD hS => ?_)
  have hP : va_P D classes [(tp, .inr (7, [.ref t1, .ref t2, .int 0, .int sp, .int 0, .int bg, .int af, .int kd, .long nm, .int nb, .int ft, .int pl]))] H := hP
  have hD : va_D A [(tp, .inr (7, [.ref t1, .ref t2, .int 0, .int sp, .int 0, .int bg, .int af, .int kd, .long nm, .int nb, .int ft, .int pl]))] := hD
  refine lv_aload_n hx hb dX7_startText_17 rfl (lv_at hl 0 rfl) ?_
  refine lv_aload_n hx hb dX7_startText_18 rfl (lv_at hl 0 rfl) ?_
  refine va_get (D := D) (ci := 7) (v := .int 0) (C := RX7) (T := TX7) (N := 12) hx hb hts inX7 hown hK hP 0 rfl rfl 4 (by decide) (hts _ tw_92) (fun _ h9 => h9) rfl dX7_startText_19 ?_
  refine lv_if_eq (tgt := 29) hx hb dX7_startText_22 (by decide) (fun _ => ?_) (fun c9 => absurd (by decide) c9)
  refine lv_aload_n hx hb dX7_startText_29 rfl (lv_at hl 0 rfl) ?_
  refine va_get (D := D) (ci := 7) (v := .int 0) (C := RX7) (T := TX7) (N := 12) hx hb hts inX7 hown hK hP 0 rfl rfl 2 (by decide) (hts _ tw_89) (fun _ h9 => h9) rfl dX7_startText_30 ?_
  refine va_put (D := D) (ci := 7) (v := .int 0) (ty := .int) (C := RX7) (T := TX7) (N := 12) hx hb hts inX7 tyX7 tyX7_ok nmX7 hown hK hP hD hS 0 rfl rfl 3 (by decide) (hts _ tw_91) (fun _ h9 => h9) rfl (by decide +kernel) rfl rfl (Nat.le_of_ble_eq_true rfl) dX7_startText_33 (fun H locs hP hD hS => ?_)
  have hP : va_P D classes [(tp, .inr (7, [.ref t1, .ref t2, .int 0, .int 0, .int 0, .int bg, .int af, .int kd, .long nm, .int nb, .int ft, .int pl]))] H := hP
  have hD : va_D A [(tp, .inr (7, [.ref t1, .ref t2, .int 0, .int 0, .int 0, .int bg, .int af, .int kd, .long nm, .int nb, .int ft, .int pl]))] := hD
  refine lv_aload_n hx hb dX7_startText_36 rfl (lv_at hl 0 rfl) ?_
  refine lv_iconst (v := 0) hx hb dX7_startText_37 (by decide) ?_
  refine va_put (D := D) (ci := 7) (v := .int 0) (ty := .int) (C := RX7) (T := TX7) (N := 12) hx hb hts inX7 tyX7 tyX7_ok nmX7 hown hK hP hD hS 0 rfl rfl 6 (by decide) (hts _ tw_94) (fun _ h9 => h9) rfl (by decide +kernel) rfl rfl (Nat.le_of_ble_eq_true rfl) dX7_startText_38 (fun H locs hP hD hS => ?_)
  have hP : va_P D classes [(tp, .inr (7, [.ref t1, .ref t2, .int 0, .int 0, .int 0, .int bg, .int 0, .int kd, .long nm, .int nb, .int ft, .int pl]))] H := hP
  have hD : va_D A [(tp, .inr (7, [.ref t1, .ref t2, .int 0, .int 0, .int 0, .int bg, .int 0, .int kd, .long nm, .int nb, .int ft, .int pl]))] := hD
  refine lv_aload_n hx hb dX7_startText_41 rfl (lv_at hl 0 rfl) ?_
  refine lv_iconst (v := 0) hx hb dX7_startText_42 (by decide) ?_
  refine va_put (D := D) (ci := 7) (v := .int 0) (ty := .int) (C := RX7) (T := TX7) (N := 12) hx hb hts inX7 tyX7 tyX7_ok nmX7 hown hK hP hD hS 0 rfl rfl 10 (by decide) (hts _ tw_104) (fun _ h9 => h9) rfl (by decide +kernel) rfl rfl (Nat.le_of_ble_eq_true rfl) dX7_startText_43 (fun H locs hP hD hS => ?_)
  have hP : va_P D classes [(tp, .inr (7, [.ref t1, .ref t2, .int 0, .int 0, .int 0, .int bg, .int 0, .int kd, .long nm, .int nb, .int 0, .int pl]))] H := hP
  have hD : va_D A [(tp, .inr (7, [.ref t1, .ref t2, .int 0, .int 0, .int 0, .int bg, .int 0, .int kd, .long nm, .int nb, .int 0, .int pl]))] := hD
  refine lv_aload_n hx hb dX7_startText_46 rfl (lv_at hl 0 rfl) ?_
  refine lv_iconst (v := 0) hx hb dX7_startText_47 (by decide) ?_
  refine va_put (D := D) (ci := 7) (v := .int 0) (ty := .int) (C := RX7) (T := TX7) (N := 12) hx hb hts inX7 tyX7 tyX7_ok nmX7 hown hK hP hD hS 0 rfl rfl 11 (by decide) (hts _ tw_108) (fun _ h9 => h9) rfl (by decide +kernel) rfl rfl (Nat.le_of_ble_eq_true rfl) dX7_startText_48 (fun H locs hP hD hS => ?_)
  have hP : va_P D classes [(tp, .inr (7, [.ref t1, .ref t2, .int 0, .int 0, .int 0, .int bg, .int 0, .int kd, .long nm, .int nb, .int 0, .int 0]))] H := hP
  have hD : va_D A [(tp, .inr (7, [.ref t1, .ref t2, .int 0, .int 0, .int 0, .int bg, .int 0, .int kd, .long nm, .int nb, .int 0, .int 0]))] := hD
  refine lv_aload_n hx hb dX7_startText_51 rfl (lv_at hl 0 rfl) ?_
  refine endv (wr := []) (va_runV (As := []) (rest := []) ⟨hx, hb, hml, hown, hts⟩ (c_T_pass l D cy z H.size tp t1 t2 kd nm nb bg) (cwV 0 hts (gV tw_424 tw_425 tw_426 tw_2 tw_427) rfl rfl rfl (by decide +kernel) ⟨Nat.le_of_ble_eq_true rfl, Nat.le_of_ble_eq_true rfl⟩) (preV hP hD hK hSD hS hA [0] rfl (by decide) (q := (RX7, TX7, 12)) (ci := 7) (q0 := 0) rfl rfl) rfl rfl hl.1 rfl (lv_room (Nat.le_of_ble_eq_true rfl)) dX7_startText_52 ⟨Nat.le_of_ble_eq_true rfl, Nat.le_of_ble_eq_true rfl⟩) hP hD hS hA [0] [] rfl rfl (by decide) (by decide) (fun u_1 H locs hw_2 hP hD hS => ?_)
  have hP : va_P D classes [(tp, .inr (7, [.ref t1, .ref t2, .int 0, .int 0, .int 0, .int 0, .int 0, .int 0, .long nm, .int nb, .int 0, .int 0]))] H := hP
  have hD : va_D A [(tp, .inr (7, [.ref t1, .ref t2, .int 0, .int 0, .int 0, .int 0, .int 0, .int 0, .long nm, .int nb, .int 0, .int 0]))] := hD
  have hP9 : va_P D classes [(tp, .inr (7, [.ref t1, .ref t2, .int 0, .int 0, .int 0, .int 0, .int 0, .int 0, .long nm, .int nb, .int 0, .int 0]))] H := subP hP [0] rfl
  have hD9 : va_D A [(tp, .inr (7, [.ref t1, .ref t2, .int 0, .int 0, .int 0, .int 0, .int 0, .int 0, .long nm, .int nb, .int 0, .int 0]))] := hD.sub [0] (by decide) rfl
  exact W.vret hx hb hr (fun t ht hW => ⟨⟨(), rfl, trivial, by rw [ht]; exact hP9, va_K.moved hW.alike hK, hD9⟩, hS.F ht⟩) hS.2.2 dX7_startText_55
set_option maxHeartbeats 4000000 in
set_option maxRecDepth 100000 in
theorem c_T_goesOn0 (l : Launch) (D : va_G) (cy : Nat → ClassId) (z : Nat → Nat) (sz : Nat) (tp : Nat) (t1 : Nat) (t2 : Nat) (sp : Int32) (bg : Int32) (af : Int32) (nm : Int64) (nb : Int32) (pl : Int32) : Met l yX7_goesOn (Cond.code yX7_goesOn cX7_goesOn 1 (some .boolean) :: gT) ({ frames := 0, cells := 0, slots := 0, locals := 200 } : Room) (va_Pc [.ref tp] (PRE D cy z [(tp, .inr (7, [.ref t1, .ref t2, .int 0, .int sp, .int 0, .int bg, .int af, .int 0, .long nm, .int nb, .int 0, .int pl]))] sz)) (va_Qi (fun (r : Int32) (u : Unit) => r = 0) (BB D cy (va_A [(tp, .inr (7, [.ref t1, .ref t2, .int 0, .int sp, .int 0, .int bg, .int af, .int 0, .long nm, .int nb, .int 0, .int pl]))] sz) (fun (u : Unit) => [(tp, .inr (7, [.ref t1, .ref t2, .int 0, .int sp, .int 0, .int bg, .int af, .int 0, .long nm, .int nb, .int 0, .int pl]))])) (va_A [(tp, .inr (7, [.ref t1, .ref t2, .int 0, .int sp, .int 0, .int bg, .int af, .int 0, .long nm, .int nb, .int 0, .int pl]))] sz)) 0 0 (va_A [(tp, .inr (7, [.ref t1, .ref t2, .int 0, .int sp, .int 0, .int bg, .int af, .int 0, .long nm, .int nb, .int 0, .int pl]))] sz) := by
  refine Met.ofW (cc := cX7_goesOn) (maxL := 1) (ret := (some .boolean)) (by decide) rfl ?_
  intro p e s m args below meth c s₁ B hml hv
  obtain ⟨rfl, hsz, hP, hK, hD0, hSD⟩ := hv
  have hx := B.exec
  have hb := B.bytes
  have hr := B.returns
  have hlocks := B.notSynchronized
  have hts : ∀ w ∈ gT, w.before _ s = true := fun w h => atoms_spec (ws := Cond.code yX7_goesOn cX7_goesOn 1 (some .boolean) :: gT) B.pre w (List.mem_cons_of_mem _ h)
  have hown : s.vm.findClass RX7 = some m.cls := findClass_of_methodNamed B.named
  subst hsz
  have hD := hD0.self (sz := s.heap.size)
  generalize hAe : va_A [(tp, .inr (7, [.ref t1, .ref t2, .int 0, .int sp, .int 0, .int bg, .int af, .int 0, .long nm, .int nb, .int 0, .int pl]))] s.heap.size = A at hD hSD ⊢
  have hA : ∀ q : Nat, s.heap.size ≤ q → A q := fun q h => by rw [← hAe]; exact Or.inr h
  have hS : va_S A s.heap s.heap [] := va_S.rf
  have hl := lv_entry ([.ref tp]) (n := 1) (Nat.le_of_ble_eq_true rfl)
  rw [lg_entry_eq]
  generalize (lg_sl ([.ref tp]) ++ List.replicate (1 - (lg_sl ([.ref tp])).length) Slot.unset).toArray = ls at hl ⊢
  have hl : lv_has ls 1 [(0, .ref tp)] := hl
  refine lv_aload_n hx hb dX7_goesOn_0 rfl (lv_at hl 0 rfl) ?_
  refine va_get (D := D) (ci := 7) (v := .int 0) (C := RX7) (T := TX7) (N := 12) hx hb hts inX7 hown hK hP 0 rfl rfl 7 (by decide) (hts _ tw_98) (fun _ h9 => h9) rfl dX7_goesOn_1 ?_
  refine lv_if_ne (tgt := 19) hx hb dX7_goesOn_4 (by decide) (fun c9 => absurd c9 (by decide)) (fun _ => ?_)
  refine lv_aload_n hx hb dX7_goesOn_7 rfl (lv_at hl 0 rfl) ?_
  refine va_get (D := D) (ci := 7) (v := .int 0) (C := RX7) (T := TX7) (N := 12) hx hb hts inX7 hown hK hP 0 rfl rfl 4 (by decide) (hts _ tw_92) (fun _ h9 => h9) rfl dX7_goesOn_8 ?_
  refine lv_if_eq (tgt := 19) hx hb dX7_goesOn_11 (by decide) (fun _ => ?_) (fun c9 => absurd (by decide) c9)
  refine lv_aload_n hx hb dX7_goesOn_19 rfl (lv_at hl 0 rfl) ?_
  refine va_get (D := D) (ci := 7) (v := .int 0) (C := RX7) (T := TX7) (N := 12) hx hb hts inX7 hown hK hP 0 rfl rfl 10 (by decide) (hts _ tw_104) (fun _ h9 => h9) rfl dX7_goesOn_20 ?_
  refine lv_if_ne (tgt := 37) hx hb dX7_goesOn_23 (by decide) (fun c9 => absurd c9 (by decide)) (fun _ => ?_)
  refine lv_aload_n hx hb dX7_goesOn_26 rfl (lv_at hl 0 rfl) ?_
  refine va_get (D := D) (ci := 7) (v := .int 0) (C := RX7) (T := TX7) (N := 12) hx hb hts inX7 hown hK hP 0 rfl rfl 7 (by decide) (hts _ tw_98) (fun _ h9 => h9) rfl dX7_goesOn_27 ?_
  refine lv_if_eq (tgt := 37) hx hb dX7_goesOn_30 (by decide) (fun _ => ?_) (fun c9 => absurd (by decide) c9)
  refine lv_iconst (v := 0) hx hb dX7_goesOn_37 (by decide) ?_
  have hP9 : va_P D classes [(tp, .inr (7, [.ref t1, .ref t2, .int 0, .int sp, .int 0, .int bg, .int af, .int 0, .long nm, .int nb, .int 0, .int pl]))] s.heap := subP hP [0] rfl
  have hD9 : va_D A [(tp, .inr (7, [.ref t1, .ref t2, .int 0, .int sp, .int 0, .int bg, .int af, .int 0, .long nm, .int nb, .int 0, .int pl]))] := hD.sub [0] (by decide) rfl
  exact W.zret (v := 0) hx hb hr (rfl) (fun t ht hW => ⟨⟨0, (), rfl, rfl, by rw [ht]; exact hP9, va_K.moved hW.alike hK, hD9⟩, hS.F ht⟩) hS.2.2 dX7_goesOn_38
set_option maxHeartbeats 4000000 in
set_option maxRecDepth 100000 in
theorem c_T_goesOn1 (l : Launch) (D : va_G) (cy : Nat → ClassId) (z : Nat → Nat) (sz : Nat) (tp : Nat) (t1 : Nat) (t2 : Nat) (sp : Int32) (bg : Int32) (af : Int32) (nm : Int64) (nb : Int32) (pl : Int32) : Met l yX7_goesOn (Cond.code yX7_goesOn cX7_goesOn 1 (some .boolean) :: gT) ({ frames := 0, cells := 0, slots := 0, locals := 200 } : Room) (va_Pc [.ref tp] (PRE D cy z [(tp, .inr (7, [.ref t1, .ref t2, .int 0, .int sp, .int 0, .int bg, .int af, .int 0, .long nm, .int nb, .int 1, .int pl]))] sz)) (va_Qi (fun (r : Int32) (u : Unit) => r = 0) (BB D cy (va_A [(tp, .inr (7, [.ref t1, .ref t2, .int 0, .int sp, .int 0, .int bg, .int af, .int 0, .long nm, .int nb, .int 1, .int pl]))] sz) (fun (u : Unit) => [(tp, .inr (7, [.ref t1, .ref t2, .int 0, .int sp, .int 0, .int bg, .int af, .int 0, .long nm, .int nb, .int 1, .int pl]))])) (va_A [(tp, .inr (7, [.ref t1, .ref t2, .int 0, .int sp, .int 0, .int bg, .int af, .int 0, .long nm, .int nb, .int 1, .int pl]))] sz)) 0 0 (va_A [(tp, .inr (7, [.ref t1, .ref t2, .int 0, .int sp, .int 0, .int bg, .int af, .int 0, .long nm, .int nb, .int 1, .int pl]))] sz) := by
  refine Met.ofW (cc := cX7_goesOn) (maxL := 1) (ret := (some .boolean)) (by decide) rfl ?_
  intro p e s m args below meth c s₁ B hml hv
  obtain ⟨rfl, hsz, hP, hK, hD0, hSD⟩ := hv
  have hx := B.exec
  have hb := B.bytes
  have hr := B.returns
  have hlocks := B.notSynchronized
  have hts : ∀ w ∈ gT, w.before _ s = true := fun w h => atoms_spec (ws := Cond.code yX7_goesOn cX7_goesOn 1 (some .boolean) :: gT) B.pre w (List.mem_cons_of_mem _ h)
  have hown : s.vm.findClass RX7 = some m.cls := findClass_of_methodNamed B.named
  subst hsz
  have hD := hD0.self (sz := s.heap.size)
  generalize hAe : va_A [(tp, .inr (7, [.ref t1, .ref t2, .int 0, .int sp, .int 0, .int bg, .int af, .int 0, .long nm, .int nb, .int 1, .int pl]))] s.heap.size = A at hD hSD ⊢
  have hA : ∀ q : Nat, s.heap.size ≤ q → A q := fun q h => by rw [← hAe]; exact Or.inr h
  have hS : va_S A s.heap s.heap [] := va_S.rf
  have hl := lv_entry ([.ref tp]) (n := 1) (Nat.le_of_ble_eq_true rfl)
  rw [lg_entry_eq]
  generalize (lg_sl ([.ref tp]) ++ List.replicate (1 - (lg_sl ([.ref tp])).length) Slot.unset).toArray = ls at hl ⊢
  have hl : lv_has ls 1 [(0, .ref tp)] := hl
  refine lv_aload_n hx hb dX7_goesOn_0 rfl (lv_at hl 0 rfl) ?_
  refine va_get (D := D) (ci := 7) (v := .int 0) (C := RX7) (T := TX7) (N := 12) hx hb hts inX7 hown hK hP 0 rfl rfl 7 (by decide) (hts _ tw_98) (fun _ h9 => h9) rfl dX7_goesOn_1 ?_
  refine lv_if_ne (tgt := 19) hx hb dX7_goesOn_4 (by decide) (fun c9 => absurd c9 (by decide)) (fun _ => ?_)
  refine lv_aload_n hx hb dX7_goesOn_7 rfl (lv_at hl 0 rfl) ?_
  refine va_get (D := D) (ci := 7) (v := .int 0) (C := RX7) (T := TX7) (N := 12) hx hb hts inX7 hown hK hP 0 rfl rfl 4 (by decide) (hts _ tw_92) (fun _ h9 => h9) rfl dX7_goesOn_8 ?_
  refine lv_if_eq (tgt := 19) hx hb dX7_goesOn_11 (by decide) (fun _ => ?_) (fun c9 => absurd (by decide) c9)
  refine lv_aload_n hx hb dX7_goesOn_19 rfl (lv_at hl 0 rfl) ?_
  refine va_get (D := D) (ci := 7) (v := .int 1) (C := RX7) (T := TX7) (N := 12) hx hb hts inX7 hown hK hP 0 rfl rfl 10 (by decide) (hts _ tw_104) (fun _ h9 => h9) rfl dX7_goesOn_20 ?_
  refine lv_if_ne (tgt := 37) hx hb dX7_goesOn_23 (by decide) (fun _ => ?_) (fun c9 => absurd c9 (by decide))
  refine lv_iconst (v := 0) hx hb dX7_goesOn_37 (by decide) ?_
  have hP9 : va_P D classes [(tp, .inr (7, [.ref t1, .ref t2, .int 0, .int sp, .int 0, .int bg, .int af, .int 0, .long nm, .int nb, .int 1, .int pl]))] s.heap := subP hP [0] rfl
  have hD9 : va_D A [(tp, .inr (7, [.ref t1, .ref t2, .int 0, .int sp, .int 0, .int bg, .int af, .int 0, .long nm, .int nb, .int 1, .int pl]))] := hD.sub [0] (by decide) rfl
  exact W.zret (v := 0) hx hb hr (rfl) (fun t ht hW => ⟨⟨0, (), rfl, rfl, by rw [ht]; exact hP9, va_K.moved hW.alike hK, hD9⟩, hS.F ht⟩) hS.2.2 dX7_goesOn_38
set_option maxHeartbeats 4000000 in
set_option maxRecDepth 100000 in
theorem c_T_sees (l : Launch) (D : va_G) (cy : Nat → ClassId) (z : Nat → Nat) (sz : Nat) (tp : Nat) (t1 : Nat) (t2 : Nat) (ln : Int32) (sp : Int32) (tl : Int32) (bg : Int32) (af : Int32) (nm : Int64) (nb : Int32) (pl : Int32) (kd : Int32) (v : Int32) : Met l yX7_sees (Cond.code yX7_sees cX7_sees 2 (some .boolean) :: gT) ({ frames := 0, cells := 0, slots := 0, locals := 200 } : Room) (va_Pc [.ref tp, .int v] (PRE D cy z [(tp, .inr (7, [.ref t1, .ref t2, .int ln, .int sp, .int tl, .int bg, .int af, .int kd, .long nm, .int nb, .int 1, .int pl]))] sz)) (va_Qi (fun (r : Int32) (u : Unit) => r = 0) (BB D cy (va_A [(tp, .inr (7, [.ref t1, .ref t2, .int ln, .int sp, .int tl, .int bg, .int af, .int kd, .long nm, .int nb, .int 1, .int pl]))] sz) (fun (u : Unit) => [(tp, .inr (7, [.ref t1, .ref t2, .int ln, .int sp, .int tl, .int bg, .int af, .int kd, .long nm, .int nb, .int 1, .int pl]))])) (va_A [(tp, .inr (7, [.ref t1, .ref t2, .int ln, .int sp, .int tl, .int bg, .int af, .int kd, .long nm, .int nb, .int 1, .int pl]))] sz)) 0 0 (va_A [(tp, .inr (7, [.ref t1, .ref t2, .int ln, .int sp, .int tl, .int bg, .int af, .int kd, .long nm, .int nb, .int 1, .int pl]))] sz) := by
  refine Met.ofW (cc := cX7_sees) (maxL := 2) (ret := (some .boolean)) (by decide) rfl ?_
  intro p e s m args below meth c s₁ B hml hv
  obtain ⟨rfl, hsz, hP, hK, hD0, hSD⟩ := hv
  have hx := B.exec
  have hb := B.bytes
  have hr := B.returns
  have hlocks := B.notSynchronized
  have hts : ∀ w ∈ gT, w.before _ s = true := fun w h => atoms_spec (ws := Cond.code yX7_sees cX7_sees 2 (some .boolean) :: gT) B.pre w (List.mem_cons_of_mem _ h)
  have hown : s.vm.findClass RX7 = some m.cls := findClass_of_methodNamed B.named
  subst hsz
  have hD := hD0.self (sz := s.heap.size)
  generalize hAe : va_A [(tp, .inr (7, [.ref t1, .ref t2, .int ln, .int sp, .int tl, .int bg, .int af, .int kd, .long nm, .int nb, .int 1, .int pl]))] s.heap.size = A at hD hSD ⊢
  have hA : ∀ q : Nat, s.heap.size ≤ q → A q := fun q h => by rw [← hAe]; exact Or.inr h
  have hS : va_S A s.heap s.heap [] := va_S.rf
  have hl := lv_entry ([.ref tp, .int v]) (n := 2) (Nat.le_of_ble_eq_true rfl)
  rw [lg_entry_eq]
  generalize (lg_sl ([.ref tp, .int v]) ++ List.replicate (2 - (lg_sl ([.ref tp, .int v])).length) Slot.unset).toArray = ls at hl ⊢
  have hl : lv_has ls 2 [(0, .ref tp), (1, .int v)] := hl
  refine lv_aload_n hx hb dX7_sees_0 rfl (lv_at hl 0 rfl) ?_
  refine va_get (D := D) (ci := 7) (v := .int 1) (C := RX7) (T := TX7) (N := 12) hx hb hts inX7 hown hK hP 0 rfl rfl 10 (by decide) (hts _ tw_104) (fun _ h9 => h9) rfl dX7_sees_1 ?_
  refine lv_if_ne (tgt := 19) hx hb dX7_sees_4 (by decide) (fun _ => ?_) (fun c9 => absurd c9 (by decide))
  refine lv_iconst (v := 0) hx hb dX7_sees_19 (by decide) ?_
  have hP9 : va_P D classes [(tp, .inr (7, [.ref t1, .ref t2, .int ln, .int sp, .int tl, .int bg, .int af, .int kd, .long nm, .int nb, .int 1, .int pl]))] s.heap := subP hP [0] rfl
  have hD9 : va_D A [(tp, .inr (7, [.ref t1, .ref t2, .int ln, .int sp, .int tl, .int bg, .int af, .int kd, .long nm, .int nb, .int 1, .int pl]))] := hD.sub [0] (by decide) rfl
  exact W.zret (v := 0) hx hb hr (rfl) (fun t ht hW => ⟨⟨0, (), rfl, rfl, by rw [ht]; exact hP9, va_K.moved hW.alike hK, hD9⟩, hS.F ht⟩) hS.2.2 dX7_sees_20
set_option maxHeartbeats 4000000 in
set_option maxRecDepth 100000 in
theorem c_T_hasPlace (l : Launch) (D : va_G) (cy : Nat → ClassId) (z : Nat → Nat) (sz : Nat) (tp : Nat) (t1 : Nat) (t2 : Nat) (sp : Int32) (tl : Int32) (bg : Int32) (af : Int32) (kd : Int32) (nm : Int64) (nb : Int32) (ft : Int32) (pl : Int32) (f : Nat → Int32) : Met l yX7_hasPlaceForTwenty (Cond.code yX7_hasPlaceForTwenty cX7_hasPlaceForTwenty 1 (some .boolean) :: gT) ({ frames := 0, cells := 0, slots := 0, locals := 200 } : Room) (va_Pc [.ref tp] (PRE D cy z [(tp, .inr (7, [.ref t1, .ref t2, .int 0, .int sp, .int tl, .int bg, .int af, .int kd, .long nm, .int nb, .int ft, .int pl])), (t1, .inl (cy 0, 940, .inl f))] sz)) (va_Qi (fun (r : Int32) (u : Unit) => r = 1) (BB D cy (va_A [(tp, .inr (7, [.ref t1, .ref t2, .int 0, .int sp, .int tl, .int bg, .int af, .int kd, .long nm, .int nb, .int ft, .int pl])), (t1, .inl (cy 0, 940, .inl f))] sz) (fun (u : Unit) => [(tp, .inr (7, [.ref t1, .ref t2, .int 0, .int sp, .int tl, .int bg, .int af, .int kd, .long nm, .int nb, .int ft, .int pl])), (t1, .inl (cy 0, 940, .inl f))])) (va_A [(tp, .inr (7, [.ref t1, .ref t2, .int 0, .int sp, .int tl, .int bg, .int af, .int kd, .long nm, .int nb, .int ft, .int pl])), (t1, .inl (cy 0, 940, .inl f))] sz)) 0 0 (va_A [(tp, .inr (7, [.ref t1, .ref t2, .int 0, .int sp, .int tl, .int bg, .int af, .int kd, .long nm, .int nb, .int ft, .int pl])), (t1, .inl (cy 0, 940, .inl f))] sz) := by
  refine Met.ofW (cc := cX7_hasPlaceForTwenty) (maxL := 1) (ret := (some .boolean)) (by decide) rfl ?_
  intro p e s m args below meth c s₁ B hml hv
  obtain ⟨rfl, hsz, hP, hK, hD0, hSD⟩ := hv
  have hx := B.exec
  have hb := B.bytes
  have hr := B.returns
  have hlocks := B.notSynchronized
  have hts : ∀ w ∈ gT, w.before _ s = true := fun w h => atoms_spec (ws := Cond.code yX7_hasPlaceForTwenty cX7_hasPlaceForTwenty 1 (some .boolean) :: gT) B.pre w (List.mem_cons_of_mem _ h)
  have hown : s.vm.findClass RX7 = some m.cls := findClass_of_methodNamed B.named
  subst hsz
  have hD := hD0.self (sz := s.heap.size)
  generalize hAe : va_A [(tp, .inr (7, [.ref t1, .ref t2, .int 0, .int sp, .int tl, .int bg, .int af, .int kd, .long nm, .int nb, .int ft, .int pl])), (t1, .inl (cy 0, 940, .inl f))] s.heap.size = A at hD hSD ⊢
  have hA : ∀ q : Nat, s.heap.size ≤ q → A q := fun q h => by rw [← hAe]; exact Or.inr h
  have hS : va_S A s.heap s.heap [] := va_S.rf
  have hl := lv_entry ([.ref tp]) (n := 1) (Nat.le_of_ble_eq_true rfl)
  rw [lg_entry_eq]
  generalize (lg_sl ([.ref tp]) ++ List.replicate (1 - (lg_sl ([.ref tp])).length) Slot.unset).toArray = ls at hl ⊢
  have hl : lv_has ls 1 [(0, .ref tp)] := hl
  refine lv_aload_n hx hb dX7_hasPlaceForTwenty_0 rfl (lv_at hl 0 rfl) ?_
  refine va_get (D := D) (ci := 7) (v := .int 0) (C := RX7) (T := TX7) (N := 12) hx hb hts inX7 hown hK hP 0 rfl rfl 2 (by decide) (hts _ tw_89) (fun _ h9 => h9) rfl dX7_hasPlaceForTwenty_1 ?_
  refine lv_bipush (v := 20) hx hb dX7_hasPlaceForTwenty_4 (by decide) ?_
  refine lv_iadd hx hb dX7_hasPlaceForTwenty_6 ?_
  refine tI (y := 20) (by decide) ?_
  refine lv_aload_n hx hb dX7_hasPlaceForTwenty_7 rfl (lv_at hl 0 rfl) ?_
  refine va_get (D := D) (ci := 7) (v := .ref t1) (C := RX7) (T := TX7) (N := 12) hx hb hts inX7 hown hK hP 0 rfl rfl 0 (by decide) (hts _ tw_87) (fun _ h9 => h9) rfl dX7_hasPlaceForTwenty_8 ?_
  refine va_alen (v := 940) hx hb hK hP 1 0 rfl rfl rfl dX7_hasPlaceForTwenty_11 ?_
  refine lv_icmp_gt (tgt := 19) hx hb dX7_hasPlaceForTwenty_12 (by decide) (fun c9 => absurd c9 (by decide)) (fun _ => ?_)
  refine lv_iconst (v := 1) hx hb dX7_hasPlaceForTwenty_15 (by decide) ?_
  refine lv_goto (tgt := 20) hx hb dX7_hasPlaceForTwenty_16 (by decide) ?_
  have hP9 : va_P D classes [(tp, .inr (7, [.ref t1, .ref t2, .int 0, .int sp, .int tl, .int bg, .int af, .int kd, .long nm, .int nb, .int ft, .int pl])), (t1, .inl (cy 0, 940, .inl f))] s.heap := subP hP [0, 1] rfl
  have hD9 : va_D A [(tp, .inr (7, [.ref t1, .ref t2, .int 0, .int sp, .int tl, .int bg, .int af, .int kd, .long nm, .int nb, .int ft, .int pl])), (t1, .inl (cy 0, 940, .inl f))] := hD.sub [0, 1] (by decide) rfl
  exact W.zret (v := 1) hx hb hr (rfl) (fun t ht hW => ⟨⟨1, (), rfl, rfl, by rw [ht]; exact hP9, va_K.moved hW.alike hK, hD9⟩, hS.F ht⟩) hS.2.2 dX7_hasPlaceForTwenty_20
set_option maxHeartbeats 4000000 in
set_option maxRecDepth 100000 in
theorem c_T_putFour0 (l : Launch) (D : va_G) (cy : Nat → ClassId) (z : Nat → Nat) (sz : Nat) (tp : Nat) (t1 : Nat) (t2 : Nat) (sp : Int32) (tl : Int32) (bg : Int32) (af : Int32) (kd : Int32) (nm : Int64) (nb : Int32) (ft : Int32) (pl : Int32) (f : Nat → Int32) (v : Int32) : Met l yX7_putFour (Cond.code yX7_putFour cX7_putFour 3 none :: gT) ({ frames := 0, cells := 0, slots := 0, locals := 200 } : Room) (va_Pc [.ref tp, .int v] (PRE D cy z [(tp, .inr (7, [.ref t1, .ref t2, .int 0, .int sp, .int tl, .int bg, .int af, .int kd, .long nm, .int nb, .int ft, .int pl])), (t1, .inl (cy 0, 940, .inl f))] sz)) (va_Qv (fun (u : (Nat → Int32)) => True) (BB D cy (va_A [(tp, .inr (7, [.ref t1, .ref t2, .int 0, .int sp, .int tl, .int bg, .int af, .int kd, .long nm, .int nb, .int ft, .int pl])), (t1, .inl (cy 0, 940, .inl f))] sz) (fun (u : (Nat → Int32)) => [(tp, .inr (7, [.ref t1, .ref t2, .int 4, .int sp, .int tl, .int bg, .int af, .int kd, .long nm, .int nb, .int ft, .int pl])), (t1, .inl (cy 0, 940, .inl u))])) (va_A [(tp, .inr (7, [.ref t1, .ref t2, .int 0, .int sp, .int tl, .int bg, .int af, .int kd, .long nm, .int nb, .int ft, .int pl])), (t1, .inl (cy 0, 940, .inl f))] sz)) 0 0 (va_A [(tp, .inr (7, [.ref t1, .ref t2, .int 0, .int sp, .int tl, .int bg, .int af, .int kd, .long nm, .int nb, .int ft, .int pl])), (t1, .inl (cy 0, 940, .inl f))] sz) := by
  refine Met.ofW (cc := cX7_putFour) (maxL := 3) (ret := none) (by decide) rfl ?_
  intro p e s m args below meth c s₁ B hml hv
  obtain ⟨rfl, hsz, hP, hK, hD0, hSD⟩ := hv
  have hx := B.exec
  have hb := B.bytes
  have hr := B.returns
  have hlocks := B.notSynchronized
  have hts : ∀ w ∈ gT, w.before _ s = true := fun w h => atoms_spec (ws := Cond.code yX7_putFour cX7_putFour 3 none :: gT) B.pre w (List.mem_cons_of_mem _ h)
  have hown : s.vm.findClass RX7 = some m.cls := findClass_of_methodNamed B.named
  subst hsz
  have hD := hD0.self (sz := s.heap.size)
  generalize hAe : va_A [(tp, .inr (7, [.ref t1, .ref t2, .int 0, .int sp, .int tl, .int bg, .int af, .int kd, .long nm, .int nb, .int ft, .int pl])), (t1, .inl (cy 0, 940, .inl f))] s.heap.size = A at hD hSD ⊢
  have hA : ∀ q : Nat, s.heap.size ≤ q → A q := fun q h => by rw [← hAe]; exact Or.inr h
  have hS : va_S A s.heap s.heap [] := va_S.rf
  have hl := lv_entry ([.ref tp, .int v]) (n := 3) (Nat.le_of_ble_eq_true rfl)
  rw [lg_entry_eq]
  generalize (lg_sl ([.ref tp, .int v]) ++ List.replicate (3 - (lg_sl ([.ref tp, .int v])).length) Slot.unset).toArray = ls at hl ⊢
  have hl : lv_has ls 3 [(0, .ref tp), (1, .int v)] := hl
  refine lv_bipush (v := 24) hx hb dX7_putFour_0 (by decide) ?_
  refine lv_istore_n (lv' := [(2, .int 24), (0, .ref tp), (1, .int v)]) hx hb dX7_putFour_2 rfl hl (by decide) rfl (fun ls hl => ?_)
  refine lv_iload_n hx hb dX7_putFour_3 rfl (lv_at hl 0 rfl) ?_
  refine lv_if_lt (tgt := 48) hx hb dX7_putFour_4 (by decide) (fun c9 => absurd c9 (by decide)) (fun _ => ?_)
  refine lv_aload_n hx hb dX7_putFour_7 rfl (lv_at hl 1 rfl) ?_
  refine va_get (D := D) (ci := 7) (v := .int 0) (C := RX7) (T := TX7) (N := 12) hx hb hts inX7 hown hK hP 0 rfl rfl 2 (by decide) (hts _ tw_89) (fun _ h9 => h9) rfl dX7_putFour_8 ?_
  refine lv_aload_n hx hb dX7_putFour_11 rfl (lv_at hl 1 rfl) ?_
  refine va_get (D := D) (ci := 7) (v := .ref t1) (C := RX7) (T := TX7) (N := 12) hx hb hts inX7 hown hK hP 0 rfl rfl 0 (by decide) (hts _ tw_87) (fun _ h9 => h9) rfl dX7_putFour_12 ?_
  refine va_alen (v := 940) hx hb hK hP 1 0 rfl rfl rfl dX7_putFour_15 ?_
  refine lv_icmp_ge (tgt := 48) hx hb dX7_putFour_16 (by decide) (fun c9 => absurd c9 (by decide)) (fun _ => ?_)
  refine lv_aload_n hx hb dX7_putFour_19 rfl (lv_at hl 1 rfl) ?_
  refine va_get (D := D) (ci := 7) (v := .ref t1) (C := RX7) (T := TX7) (N := 12) hx hb hts inX7 hown hK hP 0 rfl rfl 0 (by decide) (hts _ tw_87) (fun _ h9 => h9) rfl dX7_putFour_20 ?_
  refine lv_aload_n hx hb dX7_putFour_23 rfl (lv_at hl 1 rfl) ?_
  refine va_get (D := D) (ci := 7) (v := .int 0) (C := RX7) (T := TX7) (N := 12) hx hb hts inX7 hown hK hP 0 rfl rfl 2 (by decide) (hts _ tw_89) (fun _ h9 => h9) rfl dX7_putFour_24 ?_
  refine lv_iload_n hx hb dX7_putFour_27 rfl (lv_at hl 2 rfl) ?_
  refine lv_iload_n hx hb dX7_putFour_28 rfl (lv_at hl 0 rfl) ?_
  obtain ⟨v_1, ev_1⟩ : ∃ y : Int32, ((Int32.toUInt32 v >>> (Int32.toUInt32 24 &&& Int32.toUInt32 31)).toInt32 : Int32) = y := ⟨_, rfl⟩
  refine lv_iushr (v := v_1) hx hb dX7_putFour_29 ev_1 ?_
  obtain ⟨v_2, ev_2⟩ : ∃ y : Int32, (v_1).toInt8.toInt32 = y := ⟨_, rfl⟩
  refine lv_i2b (v := v_2) hx hb dX7_putFour_30 ev_2 ?_
  refine va_bast hx hb hK hP hD hS 1 0 rfl rfl (vp_in_nI (n := 0) (N := 940) (by decide) (by decide)) dX7_putFour_31 (fun H locs hP hD hS => ?_)
  obtain ⟨g_3, eg_3⟩ : ∃ g, g = upd f (Int32.toNatClampNeg 0) (vp_nar .byte v_2) := ⟨_, rfl⟩
  have hP : va_P D classes [(tp, .inr (7, [.ref t1, .ref t2, .int 0, .int sp, .int tl, .int bg, .int af, .int kd, .long nm, .int nb, .int ft, .int pl])), (t1, .inl (cy 0, 940, .inl g_3))] H := by rw [eg_3]; exact hP
  have hD : va_D A [(tp, .inr (7, [.ref t1, .ref t2, .int 0, .int sp, .int tl, .int bg, .int af, .int kd, .long nm, .int nb, .int ft, .int pl])), (t1, .inl (cy 0, 940, .inl g_3))] := by rw [eg_3]; exact hD
  refine lv_aload_n hx hb dX7_putFour_32 rfl (lv_at hl 1 rfl) ?_
  refine lv_dup hx hb dX7_putFour_33 rfl ?_
  refine va_get (D := D) (ci := 7) (v := .int 0) (C := RX7) (T := TX7) (N := 12) hx hb hts inX7 hown hK hP 0 rfl rfl 2 (by decide) (hts _ tw_89) (fun _ h9 => h9) rfl dX7_putFour_34 ?_
  refine lv_iconst (v := 1) hx hb dX7_putFour_37 (by decide) ?_
  refine lv_iadd hx hb dX7_putFour_38 ?_
  refine tI (y := 1) (by decide) ?_
  refine va_put (D := D) (ci := 7) (v := .int 1) (ty := .int) (C := RX7) (T := TX7) (N := 12) hx hb hts inX7 tyX7 tyX7_ok nmX7 hown hK hP hD hS 0 rfl rfl 2 (by decide) (hts _ tw_89) (fun _ h9 => h9) rfl (by decide +kernel) rfl rfl (Nat.le_of_ble_eq_true rfl) dX7_putFour_39 (fun H locs hP hD hS => ?_)
  have hP : va_P D classes [(tp, .inr (7, [.ref t1, .ref t2, .int 1, .int sp, .int tl, .int bg, .int af, .int kd, .long nm, .int nb, .int ft, .int pl])), (t1, .inl (cy 0, 940, .inl g_3))] H := hP
  have hD : va_D A [(tp, .inr (7, [.ref t1, .ref t2, .int 1, .int sp, .int tl, .int bg, .int af, .int kd, .long nm, .int nb, .int ft, .int pl])), (t1, .inl (cy 0, 940, .inl g_3))] := hD
  refine lv_iinc (v := 16) (lv' := [(2, .int 16), (0, .ref tp), (1, .int v)]) hx hb dX7_putFour_42 hl (k := 0) rfl (by decide) (by decide) rfl (fun ls hl => ?_)
  refine lv_goto (tgt := 3) hx hb dX7_putFour_45 (by decide) ?_
  refine lv_iload_n hx hb dX7_putFour_3 rfl (lv_at hl 0 rfl) ?_
  refine lv_if_lt (tgt := 48) hx hb dX7_putFour_4 (by decide) (fun c9 => absurd c9 (by decide)) (fun _ => ?_)
  refine lv_aload_n hx hb dX7_putFour_7 rfl (lv_at hl 1 rfl) ?_
  refine va_get (D := D) (ci := 7) (v := .int 1) (C := RX7) (T := TX7) (N := 12) hx hb hts inX7 hown hK hP 0 rfl rfl 2 (by decide) (hts _ tw_89) (fun _ h9 => h9) rfl dX7_putFour_8 ?_
  refine lv_aload_n hx hb dX7_putFour_11 rfl (lv_at hl 1 rfl) ?_
  refine va_get (D := D) (ci := 7) (v := .ref t1) (C := RX7) (T := TX7) (N := 12) hx hb hts inX7 hown hK hP 0 rfl rfl 0 (by decide) (hts _ tw_87) (fun _ h9 => h9) rfl dX7_putFour_12 ?_
  refine va_alen (v := 940) hx hb hK hP 1 0 rfl rfl rfl dX7_putFour_15 ?_
  refine lv_icmp_ge (tgt := 48) hx hb dX7_putFour_16 (by decide) (fun c9 => absurd c9 (by decide)) (fun _ => ?_)
  refine lv_aload_n hx hb dX7_putFour_19 rfl (lv_at hl 1 rfl) ?_
  refine va_get (D := D) (ci := 7) (v := .ref t1) (C := RX7) (T := TX7) (N := 12) hx hb hts inX7 hown hK hP 0 rfl rfl 0 (by decide) (hts _ tw_87) (fun _ h9 => h9) rfl dX7_putFour_20 ?_
  refine lv_aload_n hx hb dX7_putFour_23 rfl (lv_at hl 1 rfl) ?_
  refine va_get (D := D) (ci := 7) (v := .int 1) (C := RX7) (T := TX7) (N := 12) hx hb hts inX7 hown hK hP 0 rfl rfl 2 (by decide) (hts _ tw_89) (fun _ h9 => h9) rfl dX7_putFour_24 ?_
  refine lv_iload_n hx hb dX7_putFour_27 rfl (lv_at hl 2 rfl) ?_
  refine lv_iload_n hx hb dX7_putFour_28 rfl (lv_at hl 0 rfl) ?_
  obtain ⟨v_4, ev_4⟩ : ∃ y : Int32, ((Int32.toUInt32 v >>> (Int32.toUInt32 16 &&& Int32.toUInt32 31)).toInt32 : Int32) = y := ⟨_, rfl⟩
  refine lv_iushr (v := v_4) hx hb dX7_putFour_29 ev_4 ?_
  obtain ⟨v_5, ev_5⟩ : ∃ y : Int32, (v_4).toInt8.toInt32 = y := ⟨_, rfl⟩
  refine lv_i2b (v := v_5) hx hb dX7_putFour_30 ev_5 ?_
  refine va_bast hx hb hK hP hD hS 1 0 rfl rfl (vp_in_nI (n := 1) (N := 940) (by decide) (by decide)) dX7_putFour_31 (fun H locs hP hD hS => ?_)
  obtain ⟨g_6, eg_6⟩ : ∃ g, g = upd g_3 (Int32.toNatClampNeg 1) (vp_nar .byte v_5) := ⟨_, rfl⟩
  have hP : va_P D classes [(tp, .inr (7, [.ref t1, .ref t2, .int 1, .int sp, .int tl, .int bg, .int af, .int kd, .long nm, .int nb, .int ft, .int pl])), (t1, .inl (cy 0, 940, .inl g_6))] H := by rw [eg_6]; exact hP
  have hD : va_D A [(tp, .inr (7, [.ref t1, .ref t2, .int 1, .int sp, .int tl, .int bg, .int af, .int kd, .long nm, .int nb, .int ft, .int pl])), (t1, .inl (cy 0, 940, .inl g_6))] := by rw [eg_6]; exact hD
  refine lv_aload_n hx hb dX7_putFour_32 rfl (lv_at hl 1 rfl) ?_
  refine lv_dup hx hb dX7_putFour_33 rfl ?_
  refine va_get (D := D) (ci := 7) (v := .int 1) (C := RX7) (T := TX7) (N := 12) hx hb hts inX7 hown hK hP 0 rfl rfl 2 (by decide) (hts _ tw_89) (fun _ h9 => h9) rfl dX7_putFour_34 ?_
  refine lv_iconst (v := 1) hx hb dX7_putFour_37 (by decide) ?_
  refine lv_iadd hx hb dX7_putFour_38 ?_
  refine tI (y := 2) (by decide) ?_
  refine va_put (D := D) (ci := 7) (v := .int 2) (ty := .int) (C := RX7) (T := TX7) (N := 12) hx hb hts inX7 tyX7 tyX7_ok nmX7 hown hK hP hD hS 0 rfl rfl 2 (by decide) (hts _ tw_89) (fun _ h9 => h9) rfl (by decide +kernel) rfl rfl (Nat.le_of_ble_eq_true rfl) dX7_putFour_39 (fun H locs hP hD hS => ?_)
  have hP : va_P D classes [(tp, .inr (7, [.ref t1, .ref t2, .int 2, .int sp, .int tl, .int bg, .int af, .int kd, .long nm, .int nb, .int ft, .int pl])), (t1, .inl (cy 0, 940, .inl g_6))] H := hP
  have hD : va_D A [(tp, .inr (7, [.ref t1, .ref t2, .int 2, .int sp, .int tl, .int bg, .int af, .int kd, .long nm, .int nb, .int ft, .int pl])), (t1, .inl (cy 0, 940, .inl g_6))] := hD
  refine lv_iinc (v := 8) (lv' := [(2, .int 8), (0, .ref tp), (1, .int v)]) hx hb dX7_putFour_42 hl (k := 0) rfl (by decide) (by decide) rfl (fun ls hl => ?_)
  refine lv_goto (tgt := 3) hx hb dX7_putFour_45 (by decide) ?_
  refine lv_iload_n hx hb dX7_putFour_3 rfl (lv_at hl 0 rfl) ?_
  refine lv_if_lt (tgt := 48) hx hb dX7_putFour_4 (by decide) (fun c9 => absurd c9 (by decide)) (fun _ => ?_)
  refine lv_aload_n hx hb dX7_putFour_7 rfl (lv_at hl 1 rfl) ?_
  refine va_get (D := D) (ci := 7) (v := .int 2) (C := RX7) (T := TX7) (N := 12) hx hb hts inX7 hown hK hP 0 rfl rfl 2 (by decide) (hts _ tw_89) (fun _ h9 => h9) rfl dX7_putFour_8 ?_
  refine lv_aload_n hx hb dX7_putFour_11 rfl (lv_at hl 1 rfl) ?_
  refine va_get (D := D) (ci := 7) (v := .ref t1) (C := RX7) (T := TX7) (N := 12) hx hb hts inX7 hown hK hP 0 rfl rfl 0 (by decide) (hts _ tw_87) (fun _ h9 => h9) rfl dX7_putFour_12 ?_
  refine va_alen (v := 940) hx hb hK hP 1 0 rfl rfl rfl dX7_putFour_15 ?_
  refine lv_icmp_ge (tgt := 48) hx hb dX7_putFour_16 (by decide) (fun c9 => absurd c9 (by decide)) (fun _ => ?_)
  refine lv_aload_n hx hb dX7_putFour_19 rfl (lv_at hl 1 rfl) ?_
  refine va_get (D := D) (ci := 7) (v := .ref t1) (C := RX7) (T := TX7) (N := 12) hx hb hts inX7 hown hK hP 0 rfl rfl 0 (by decide) (hts _ tw_87) (fun _ h9 => h9) rfl dX7_putFour_20 ?_
  refine lv_aload_n hx hb dX7_putFour_23 rfl (lv_at hl 1 rfl) ?_
  refine va_get (D := D) (ci := 7) (v := .int 2) (C := RX7) (T := TX7) (N := 12) hx hb hts inX7 hown hK hP 0 rfl rfl 2 (by decide) (hts _ tw_89) (fun _ h9 => h9) rfl dX7_putFour_24 ?_
  refine lv_iload_n hx hb dX7_putFour_27 rfl (lv_at hl 2 rfl) ?_
  refine lv_iload_n hx hb dX7_putFour_28 rfl (lv_at hl 0 rfl) ?_
  obtain ⟨v_7, ev_7⟩ : ∃ y : Int32, ((Int32.toUInt32 v >>> (Int32.toUInt32 8 &&& Int32.toUInt32 31)).toInt32 : Int32) = y := ⟨_, rfl⟩
  refine lv_iushr (v := v_7) hx hb dX7_putFour_29 ev_7 ?_
  obtain ⟨v_8, ev_8⟩ : ∃ y : Int32, (v_7).toInt8.toInt32 = y := ⟨_, rfl⟩
  refine lv_i2b (v := v_8) hx hb dX7_putFour_30 ev_8 ?_
  refine va_bast hx hb hK hP hD hS 1 0 rfl rfl (vp_in_nI (n := 2) (N := 940) (by decide) (by decide)) dX7_putFour_31 (fun H locs hP hD hS => ?_)
  obtain ⟨g_9, eg_9⟩ : ∃ g, g = upd g_6 (Int32.toNatClampNeg 2) (vp_nar .byte v_8) := ⟨_, rfl⟩
  have hP : va_P D classes [(tp, .inr (7, [.ref t1, .ref t2, .int 2, .int sp, .int tl, .int bg, .int af, .int kd, .long nm, .int nb, .int ft, .int pl])), (t1, .inl (cy 0, 940, .inl g_9))] H := by rw [eg_9]; exact hP
  have hD : va_D A [(tp, .inr (7, [.ref t1, .ref t2, .int 2, .int sp, .int tl, .int bg, .int af, .int kd, .long nm, .int nb, .int ft, .int pl])), (t1, .inl (cy 0, 940, .inl g_9))] := by rw [eg_9]; exact hD
  refine lv_aload_n hx hb dX7_putFour_32 rfl (lv_at hl 1 rfl) ?_
  refine lv_dup hx hb dX7_putFour_33 rfl ?_
  refine va_get (D := D) (ci := 7) (v := .int 2) (C := RX7) (T := TX7) (N := 12) hx hb hts inX7 hown hK hP 0 rfl rfl 2 (by decide) (hts _ tw_89) (fun _ h9 => h9) rfl dX7_putFour_34 ?_
  refine lv_iconst (v := 1) hx hb dX7_putFour_37 (by decide) ?_
  refine lv_iadd hx hb dX7_putFour_38 ?_
  refine tI (y := 3) (by decide) ?_
  refine va_put (D := D) (ci := 7) (v := .int 3) (ty := .int) (C := RX7) (T := TX7) (N := 12) hx hb hts inX7 tyX7 tyX7_ok nmX7 hown hK hP hD hS 0 rfl rfl 2 (by decide) (hts _ tw_89) (fun _ h9 => h9) rfl (by decide +kernel) rfl rfl (Nat.le_of_ble_eq_true rfl) dX7_putFour_39 (fun H locs hP hD hS => ?_)
  have hP : va_P D classes [(tp, .inr (7, [.ref t1, .ref t2, .int 3, .int sp, .int tl, .int bg, .int af, .int kd, .long nm, .int nb, .int ft, .int pl])), (t1, .inl (cy 0, 940, .inl g_9))] H := hP
  have hD : va_D A [(tp, .inr (7, [.ref t1, .ref t2, .int 3, .int sp, .int tl, .int bg, .int af, .int kd, .long nm, .int nb, .int ft, .int pl])), (t1, .inl (cy 0, 940, .inl g_9))] := hD
  refine lv_iinc (v := 0) (lv' := [(2, .int 0), (0, .ref tp), (1, .int v)]) hx hb dX7_putFour_42 hl (k := 0) rfl (by decide) (by decide) rfl (fun ls hl => ?_)
  refine lv_goto (tgt := 3) hx hb dX7_putFour_45 (by decide) ?_
  refine lv_iload_n hx hb dX7_putFour_3 rfl (lv_at hl 0 rfl) ?_
  refine lv_if_lt (tgt := 48) hx hb dX7_putFour_4 (by decide) (fun c9 => absurd c9 (by decide)) (fun _ => ?_)
  refine lv_aload_n hx hb dX7_putFour_7 rfl (lv_at hl 1 rfl) ?_
  refine va_get (D := D) (ci := 7) (v := .int 3) (C := RX7) (T := TX7) (N := 12) hx hb hts inX7 hown hK hP 0 rfl rfl 2 (by decide) (hts _ tw_89) (fun _ h9 => h9) rfl dX7_putFour_8 ?_
  refine lv_aload_n hx hb dX7_putFour_11 rfl (lv_at hl 1 rfl) ?_
  refine va_get (D := D) (ci := 7) (v := .ref t1) (C := RX7) (T := TX7) (N := 12) hx hb hts inX7 hown hK hP 0 rfl rfl 0 (by decide) (hts _ tw_87) (fun _ h9 => h9) rfl dX7_putFour_12 ?_
  refine va_alen (v := 940) hx hb hK hP 1 0 rfl rfl rfl dX7_putFour_15 ?_
  refine lv_icmp_ge (tgt := 48) hx hb dX7_putFour_16 (by decide) (fun c9 => absurd c9 (by decide)) (fun _ => ?_)
  refine lv_aload_n hx hb dX7_putFour_19 rfl (lv_at hl 1 rfl) ?_
  refine va_get (D := D) (ci := 7) (v := .ref t1) (C := RX7) (T := TX7) (N := 12) hx hb hts inX7 hown hK hP 0 rfl rfl 0 (by decide) (hts _ tw_87) (fun _ h9 => h9) rfl dX7_putFour_20 ?_
  refine lv_aload_n hx hb dX7_putFour_23 rfl (lv_at hl 1 rfl) ?_
  refine va_get (D := D) (ci := 7) (v := .int 3) (C := RX7) (T := TX7) (N := 12) hx hb hts inX7 hown hK hP 0 rfl rfl 2 (by decide) (hts _ tw_89) (fun _ h9 => h9) rfl dX7_putFour_24 ?_
  refine lv_iload_n hx hb dX7_putFour_27 rfl (lv_at hl 2 rfl) ?_
  refine lv_iload_n hx hb dX7_putFour_28 rfl (lv_at hl 0 rfl) ?_
  obtain ⟨v_10, ev_10⟩ : ∃ y : Int32, ((Int32.toUInt32 v >>> (Int32.toUInt32 0 &&& Int32.toUInt32 31)).toInt32 : Int32) = y := ⟨_, rfl⟩
  refine lv_iushr (v := v_10) hx hb dX7_putFour_29 ev_10 ?_
  obtain ⟨v_11, ev_11⟩ : ∃ y : Int32, (v_10).toInt8.toInt32 = y := ⟨_, rfl⟩
  refine lv_i2b (v := v_11) hx hb dX7_putFour_30 ev_11 ?_
  refine va_bast hx hb hK hP hD hS 1 0 rfl rfl (vp_in_nI (n := 3) (N := 940) (by decide) (by decide)) dX7_putFour_31 (fun H locs hP hD hS => ?_)
  obtain ⟨g_12, eg_12⟩ : ∃ g, g = upd g_9 (Int32.toNatClampNeg 3) (vp_nar .byte v_11) := ⟨_, rfl⟩
  have hP : va_P D classes [(tp, .inr (7, [.ref t1, .ref t2, .int 3, .int sp, .int tl, .int bg, .int af, .int kd, .long nm, .int nb, .int ft, .int pl])), (t1, .inl (cy 0, 940, .inl g_12))] H := by rw [eg_12]; exact hP
  have hD : va_D A [(tp, .inr (7, [.ref t1, .ref t2, .int 3, .int sp, .int tl, .int bg, .int af, .int kd, .long nm, .int nb, .int ft, .int pl])), (t1, .inl (cy 0, 940, .inl g_12))] := by rw [eg_12]; exact hD
  refine lv_aload_n hx hb dX7_putFour_32 rfl (lv_at hl 1 rfl) ?_
  refine lv_dup hx hb dX7_putFour_33 rfl ?_
  refine va_get (D := D) (ci := 7) (v := .int 3) (C := RX7) (T := TX7) (N := 12) hx hb hts inX7 hown hK hP 0 rfl rfl 2 (by decide) (hts _ tw_89) (fun _ h9 => h9) rfl dX7_putFour_34 ?_
  refine lv_iconst (v := 1) hx hb dX7_putFour_37 (by decide) ?_
  refine lv_iadd hx hb dX7_putFour_38 ?_
  refine tI (y := 4) (by decide) ?_
  refine va_put (D := D) (ci := 7) (v := .int 4) (ty := .int) (C := RX7) (T := TX7) (N := 12) hx hb hts inX7 tyX7 tyX7_ok nmX7 hown hK hP hD hS 0 rfl rfl 2 (by decide) (hts _ tw_89) (fun _ h9 => h9) rfl (by decide +kernel) rfl rfl (Nat.le_of_ble_eq_true rfl) dX7_putFour_39 (fun H locs hP hD hS => ?_)
  have hP : va_P D classes [(tp, .inr (7, [.ref t1, .ref t2, .int 4, .int sp, .int tl, .int bg, .int af, .int kd, .long nm, .int nb, .int ft, .int pl])), (t1, .inl (cy 0, 940, .inl g_12))] H := hP
  have hD : va_D A [(tp, .inr (7, [.ref t1, .ref t2, .int 4, .int sp, .int tl, .int bg, .int af, .int kd, .long nm, .int nb, .int ft, .int pl])), (t1, .inl (cy 0, 940, .inl g_12))] := hD
  refine lv_iinc (v := (-8)) (lv' := [(2, .int (-8)), (0, .ref tp), (1, .int v)]) hx hb dX7_putFour_42 hl (k := 0) rfl (by decide) (by decide) rfl (fun ls hl => ?_)
  refine lv_goto (tgt := 3) hx hb dX7_putFour_45 (by decide) ?_
  refine lv_iload_n hx hb dX7_putFour_3 rfl (lv_at hl 0 rfl) ?_
  refine lv_if_lt (tgt := 48) hx hb dX7_putFour_4 (by decide) (fun _ => ?_) (fun c9 => absurd (by decide) c9)
  have hP9 : va_P D classes [(tp, .inr (7, [.ref t1, .ref t2, .int 4, .int sp, .int tl, .int bg, .int af, .int kd, .long nm, .int nb, .int ft, .int pl])), (t1, .inl (cy 0, 940, .inl g_12))] H := subP hP [0, 1] rfl
  have hD9 : va_D A [(tp, .inr (7, [.ref t1, .ref t2, .int 4, .int sp, .int tl, .int bg, .int af, .int kd, .long nm, .int nb, .int ft, .int pl])), (t1, .inl (cy 0, 940, .inl g_12))] := hD.sub [0, 1] (by decide) rfl
  exact W.vret hx hb hr (fun t ht hW => ⟨⟨((g_12)), rfl, trivial, by rw [ht]; exact hP9, va_K.moved hW.alike hK, hD9⟩, hS.F ht⟩) hS.2.2 dX7_putFour_48
set_option maxHeartbeats 4000000 in
set_option maxRecDepth 100000 in
theorem c_T_putFour4 (l : Launch) (D : va_G) (cy : Nat → ClassId) (z : Nat → Nat) (sz : Nat) (tp : Nat) (t1 : Nat) (t2 : Nat) (sp : Int32) (tl : Int32) (bg : Int32) (af : Int32) (kd : Int32) (nm : Int64) (nb : Int32) (ft : Int32) (pl : Int32) (f : Nat → Int32) (v : Int32) : Met l yX7_putFour (Cond.code yX7_putFour cX7_putFour 3 none :: gT) ({ frames := 0, cells := 0, slots := 0, locals := 200 } : Room) (va_Pc [.ref tp, .int v] (PRE D cy z [(tp, .inr (7, [.ref t1, .ref t2, .int 4, .int sp, .int tl, .int bg, .int af, .int kd, .long nm, .int nb, .int ft, .int pl])), (t1, .inl (cy 0, 940, .inl f))] sz)) (va_Qv (fun (u : (Nat → Int32)) => True) (BB D cy (va_A [(tp, .inr (7, [.ref t1, .ref t2, .int 4, .int sp, .int tl, .int bg, .int af, .int kd, .long nm, .int nb, .int ft, .int pl])), (t1, .inl (cy 0, 940, .inl f))] sz) (fun (u : (Nat → Int32)) => [(tp, .inr (7, [.ref t1, .ref t2, .int 8, .int sp, .int tl, .int bg, .int af, .int kd, .long nm, .int nb, .int ft, .int pl])), (t1, .inl (cy 0, 940, .inl u))])) (va_A [(tp, .inr (7, [.ref t1, .ref t2, .int 4, .int sp, .int tl, .int bg, .int af, .int kd, .long nm, .int nb, .int ft, .int pl])), (t1, .inl (cy 0, 940, .inl f))] sz)) 0 0 (va_A [(tp, .inr (7, [.ref t1, .ref t2, .int 4, .int sp, .int tl, .int bg, .int af, .int kd, .long nm, .int nb, .int ft, .int pl])), (t1, .inl (cy 0, 940, .inl f))] sz) := by
  refine Met.ofW (cc := cX7_putFour) (maxL := 3) (ret := none) (by decide) rfl ?_
  intro p e s m args below meth c s₁ B hml hv
  obtain ⟨rfl, hsz, hP, hK, hD0, hSD⟩ := hv
  have hx := B.exec
  have hb := B.bytes
  have hr := B.returns
  have hlocks := B.notSynchronized
  have hts : ∀ w ∈ gT, w.before _ s = true := fun w h => atoms_spec (ws := Cond.code yX7_putFour cX7_putFour 3 none :: gT) B.pre w (List.mem_cons_of_mem _ h)
  have hown : s.vm.findClass RX7 = some m.cls := findClass_of_methodNamed B.named
  subst hsz
  have hD := hD0.self (sz := s.heap.size)
  generalize hAe : va_A [(tp, .inr (7, [.ref t1, .ref t2, .int 4, .int sp, .int tl, .int bg, .int af, .int kd, .long nm, .int nb, .int ft, .int pl])), (t1, .inl (cy 0, 940, .inl f))] s.heap.size = A at hD hSD ⊢
  have hA : ∀ q : Nat, s.heap.size ≤ q → A q := fun q h => by rw [← hAe]; exact Or.inr h
  have hS : va_S A s.heap s.heap [] := va_S.rf
  have hl := lv_entry ([.ref tp, .int v]) (n := 3) (Nat.le_of_ble_eq_true rfl)
  rw [lg_entry_eq]
  generalize (lg_sl ([.ref tp, .int v]) ++ List.replicate (3 - (lg_sl ([.ref tp, .int v])).length) Slot.unset).toArray = ls at hl ⊢
  have hl : lv_has ls 3 [(0, .ref tp), (1, .int v)] := hl
  refine lv_bipush (v := 24) hx hb dX7_putFour_0 (by decide) ?_
  refine lv_istore_n (lv' := [(2, .int 24), (0, .ref tp), (1, .int v)]) hx hb dX7_putFour_2 rfl hl (by decide) rfl (fun ls hl => ?_)
  refine lv_iload_n hx hb dX7_putFour_3 rfl (lv_at hl 0 rfl) ?_
  refine lv_if_lt (tgt := 48) hx hb dX7_putFour_4 (by decide) (fun c9 => absurd c9 (by decide)) (fun _ => ?_)
  refine lv_aload_n hx hb dX7_putFour_7 rfl (lv_at hl 1 rfl) ?_
  refine va_get (D := D) (ci := 7) (v := .int 4) (C := RX7) (T := TX7) (N := 12) hx hb hts inX7 hown hK hP 0 rfl rfl 2 (by decide) (hts _ tw_89) (fun _ h9 => h9) rfl dX7_putFour_8 ?_
  refine lv_aload_n hx hb dX7_putFour_11 rfl (lv_at hl 1 rfl) ?_
  refine va_get (D := D) (ci := 7) (v := .ref t1) (C := RX7) (T := TX7) (N := 12) hx hb hts inX7 hown hK hP 0 rfl rfl 0 (by decide) (hts _ tw_87) (fun _ h9 => h9) rfl dX7_putFour_12 ?_
  refine va_alen (v := 940) hx hb hK hP 1 0 rfl rfl rfl dX7_putFour_15 ?_
  refine lv_icmp_ge (tgt := 48) hx hb dX7_putFour_16 (by decide) (fun c9 => absurd c9 (by decide)) (fun _ => ?_)
  refine lv_aload_n hx hb dX7_putFour_19 rfl (lv_at hl 1 rfl) ?_
  refine va_get (D := D) (ci := 7) (v := .ref t1) (C := RX7) (T := TX7) (N := 12) hx hb hts inX7 hown hK hP 0 rfl rfl 0 (by decide) (hts _ tw_87) (fun _ h9 => h9) rfl dX7_putFour_20 ?_
  refine lv_aload_n hx hb dX7_putFour_23 rfl (lv_at hl 1 rfl) ?_
  refine va_get (D := D) (ci := 7) (v := .int 4) (C := RX7) (T := TX7) (N := 12) hx hb hts inX7 hown hK hP 0 rfl rfl 2 (by decide) (hts _ tw_89) (fun _ h9 => h9) rfl dX7_putFour_24 ?_
  refine lv_iload_n hx hb dX7_putFour_27 rfl (lv_at hl 2 rfl) ?_
  refine lv_iload_n hx hb dX7_putFour_28 rfl (lv_at hl 0 rfl) ?_
  obtain ⟨v_1, ev_1⟩ : ∃ y : Int32, ((Int32.toUInt32 v >>> (Int32.toUInt32 24 &&& Int32.toUInt32 31)).toInt32 : Int32) = y := ⟨_, rfl⟩
  refine lv_iushr (v := v_1) hx hb dX7_putFour_29 ev_1 ?_
  obtain ⟨v_2, ev_2⟩ : ∃ y : Int32, (v_1).toInt8.toInt32 = y := ⟨_, rfl⟩
  refine lv_i2b (v := v_2) hx hb dX7_putFour_30 ev_2 ?_
  refine va_bast hx hb hK hP hD hS 1 0 rfl rfl (vp_in_nI (n := 4) (N := 940) (by decide) (by decide)) dX7_putFour_31 (fun H locs hP hD hS => ?_)
  obtain ⟨g_3, eg_3⟩ : ∃ g, g = upd f (Int32.toNatClampNeg 4) (vp_nar .byte v_2) := ⟨_, rfl⟩
  have hP : va_P D classes [(tp, .inr (7, [.ref t1, .ref t2, .int 4, .int sp, .int tl, .int bg, .int af, .int kd, .long nm, .int nb, .int ft, .int pl])), (t1, .inl (cy 0, 940, .inl g_3))] H := by rw [eg_3]; exact hP
  have hD : va_D A [(tp, .inr (7, [.ref t1, .ref t2, .int 4, .int sp, .int tl, .int bg, .int af, .int kd, .long nm, .int nb, .int ft, .int pl])), (t1, .inl (cy 0, 940, .inl g_3))] := by rw [eg_3]; exact hD
  refine lv_aload_n hx hb dX7_putFour_32 rfl (lv_at hl 1 rfl) ?_
  refine lv_dup hx hb dX7_putFour_33 rfl ?_
  refine va_get (D := D) (ci := 7) (v := .int 4) (C := RX7) (T := TX7) (N := 12) hx hb hts inX7 hown hK hP 0 rfl rfl 2 (by decide) (hts _ tw_89) (fun _ h9 => h9) rfl dX7_putFour_34 ?_
  refine lv_iconst (v := 1) hx hb dX7_putFour_37 (by decide) ?_
  refine lv_iadd hx hb dX7_putFour_38 ?_
  refine tI (y := 5) (by decide) ?_
  refine va_put (D := D) (ci := 7) (v := .int 5) (ty := .int) (C := RX7) (T := TX7) (N := 12) hx hb hts inX7 tyX7 tyX7_ok nmX7 hown hK hP hD hS 0 rfl rfl 2 (by decide) (hts _ tw_89) (fun _ h9 => h9) rfl (by decide +kernel) rfl rfl (Nat.le_of_ble_eq_true rfl) dX7_putFour_39 (fun H locs hP hD hS => ?_)
  have hP : va_P D classes [(tp, .inr (7, [.ref t1, .ref t2, .int 5, .int sp, .int tl, .int bg, .int af, .int kd, .long nm, .int nb, .int ft, .int pl])), (t1, .inl (cy 0, 940, .inl g_3))] H := hP
  have hD : va_D A [(tp, .inr (7, [.ref t1, .ref t2, .int 5, .int sp, .int tl, .int bg, .int af, .int kd, .long nm, .int nb, .int ft, .int pl])), (t1, .inl (cy 0, 940, .inl g_3))] := hD
  refine lv_iinc (v := 16) (lv' := [(2, .int 16), (0, .ref tp), (1, .int v)]) hx hb dX7_putFour_42 hl (k := 0) rfl (by decide) (by decide) rfl (fun ls hl => ?_)
  refine lv_goto (tgt := 3) hx hb dX7_putFour_45 (by decide) ?_
  refine lv_iload_n hx hb dX7_putFour_3 rfl (lv_at hl 0 rfl) ?_
  refine lv_if_lt (tgt := 48) hx hb dX7_putFour_4 (by decide) (fun c9 => absurd c9 (by decide)) (fun _ => ?_)
  refine lv_aload_n hx hb dX7_putFour_7 rfl (lv_at hl 1 rfl) ?_
  refine va_get (D := D) (ci := 7) (v := .int 5) (C := RX7) (T := TX7) (N := 12) hx hb hts inX7 hown hK hP 0 rfl rfl 2 (by decide) (hts _ tw_89) (fun _ h9 => h9) rfl dX7_putFour_8 ?_
  refine lv_aload_n hx hb dX7_putFour_11 rfl (lv_at hl 1 rfl) ?_
  refine va_get (D := D) (ci := 7) (v := .ref t1) (C := RX7) (T := TX7) (N := 12) hx hb hts inX7 hown hK hP 0 rfl rfl 0 (by decide) (hts _ tw_87) (fun _ h9 => h9) rfl dX7_putFour_12 ?_
  refine va_alen (v := 940) hx hb hK hP 1 0 rfl rfl rfl dX7_putFour_15 ?_
  refine lv_icmp_ge (tgt := 48) hx hb dX7_putFour_16 (by decide) (fun c9 => absurd c9 (by decide)) (fun _ => ?_)
  refine lv_aload_n hx hb dX7_putFour_19 rfl (lv_at hl 1 rfl) ?_
  refine va_get (D := D) (ci := 7) (v := .ref t1) (C := RX7) (T := TX7) (N := 12) hx hb hts inX7 hown hK hP 0 rfl rfl 0 (by decide) (hts _ tw_87) (fun _ h9 => h9) rfl dX7_putFour_20 ?_
  refine lv_aload_n hx hb dX7_putFour_23 rfl (lv_at hl 1 rfl) ?_
  refine va_get (D := D) (ci := 7) (v := .int 5) (C := RX7) (T := TX7) (N := 12) hx hb hts inX7 hown hK hP 0 rfl rfl 2 (by decide) (hts _ tw_89) (fun _ h9 => h9) rfl dX7_putFour_24 ?_
  refine lv_iload_n hx hb dX7_putFour_27 rfl (lv_at hl 2 rfl) ?_
  refine lv_iload_n hx hb dX7_putFour_28 rfl (lv_at hl 0 rfl) ?_
  obtain ⟨v_4, ev_4⟩ : ∃ y : Int32, ((Int32.toUInt32 v >>> (Int32.toUInt32 16 &&& Int32.toUInt32 31)).toInt32 : Int32) = y := ⟨_, rfl⟩
  refine lv_iushr (v := v_4) hx hb dX7_putFour_29 ev_4 ?_
  obtain ⟨v_5, ev_5⟩ : ∃ y : Int32, (v_4).toInt8.toInt32 = y := ⟨_, rfl⟩
  refine lv_i2b (v := v_5) hx hb dX7_putFour_30 ev_5 ?_
  refine va_bast hx hb hK hP hD hS 1 0 rfl rfl (vp_in_nI (n := 5) (N := 940) (by decide) (by decide)) dX7_putFour_31 (fun H locs hP hD hS => ?_)
  obtain ⟨g_6, eg_6⟩ : ∃ g, g = upd g_3 (Int32.toNatClampNeg 5) (vp_nar .byte v_5) := ⟨_, rfl⟩
  have hP : va_P D classes [(tp, .inr (7, [.ref t1, .ref t2, .int 5, .int sp, .int tl, .int bg, .int af, .int kd, .long nm, .int nb, .int ft, .int pl])), (t1, .inl (cy 0, 940, .inl g_6))] H := by rw [eg_6]; exact hP
  have hD : va_D A [(tp, .inr (7, [.ref t1, .ref t2, .int 5, .int sp, .int tl, .int bg, .int af, .int kd, .long nm, .int nb, .int ft, .int pl])), (t1, .inl (cy 0, 940, .inl g_6))] := by rw [eg_6]; exact hD
  refine lv_aload_n hx hb dX7_putFour_32 rfl (lv_at hl 1 rfl) ?_
  refine lv_dup hx hb dX7_putFour_33 rfl ?_
  refine va_get (D := D) (ci := 7) (v := .int 5) (C := RX7) (T := TX7) (N := 12) hx hb hts inX7 hown hK hP 0 rfl rfl 2 (by decide) (hts _ tw_89) (fun _ h9 => h9) rfl dX7_putFour_34 ?_
  refine lv_iconst (v := 1) hx hb dX7_putFour_37 (by decide) ?_
  refine lv_iadd hx hb dX7_putFour_38 ?_
  refine tI (y := 6) (by decide) ?_
  refine va_put (D := D) (ci := 7) (v := .int 6) (ty := .int) (C := RX7) (T := TX7) (N := 12) hx hb hts inX7 tyX7 tyX7_ok nmX7 hown hK hP hD hS 0 rfl rfl 2 (by decide) (hts _ tw_89) (fun _ h9 => h9) rfl (by decide +kernel) rfl rfl (Nat.le_of_ble_eq_true rfl) dX7_putFour_39 (fun H locs hP hD hS => ?_)
  have hP : va_P D classes [(tp, .inr (7, [.ref t1, .ref t2, .int 6, .int sp, .int tl, .int bg, .int af, .int kd, .long nm, .int nb, .int ft, .int pl])), (t1, .inl (cy 0, 940, .inl g_6))] H := hP
  have hD : va_D A [(tp, .inr (7, [.ref t1, .ref t2, .int 6, .int sp, .int tl, .int bg, .int af, .int kd, .long nm, .int nb, .int ft, .int pl])), (t1, .inl (cy 0, 940, .inl g_6))] := hD
  refine lv_iinc (v := 8) (lv' := [(2, .int 8), (0, .ref tp), (1, .int v)]) hx hb dX7_putFour_42 hl (k := 0) rfl (by decide) (by decide) rfl (fun ls hl => ?_)
  refine lv_goto (tgt := 3) hx hb dX7_putFour_45 (by decide) ?_
  refine lv_iload_n hx hb dX7_putFour_3 rfl (lv_at hl 0 rfl) ?_
  refine lv_if_lt (tgt := 48) hx hb dX7_putFour_4 (by decide) (fun c9 => absurd c9 (by decide)) (fun _ => ?_)
  refine lv_aload_n hx hb dX7_putFour_7 rfl (lv_at hl 1 rfl) ?_
  refine va_get (D := D) (ci := 7) (v := .int 6) (C := RX7) (T := TX7) (N := 12) hx hb hts inX7 hown hK hP 0 rfl rfl 2 (by decide) (hts _ tw_89) (fun _ h9 => h9) rfl dX7_putFour_8 ?_
  refine lv_aload_n hx hb dX7_putFour_11 rfl (lv_at hl 1 rfl) ?_
  refine va_get (D := D) (ci := 7) (v := .ref t1) (C := RX7) (T := TX7) (N := 12) hx hb hts inX7 hown hK hP 0 rfl rfl 0 (by decide) (hts _ tw_87) (fun _ h9 => h9) rfl dX7_putFour_12 ?_
  refine va_alen (v := 940) hx hb hK hP 1 0 rfl rfl rfl dX7_putFour_15 ?_
  refine lv_icmp_ge (tgt := 48) hx hb dX7_putFour_16 (by decide) (fun c9 => absurd c9 (by decide)) (fun _ => ?_)
  refine lv_aload_n hx hb dX7_putFour_19 rfl (lv_at hl 1 rfl) ?_
  refine va_get (D := D) (ci := 7) (v := .ref t1) (C := RX7) (T := TX7) (N := 12) hx hb hts inX7 hown hK hP 0 rfl rfl 0 (by decide) (hts _ tw_87) (fun _ h9 => h9) rfl dX7_putFour_20 ?_
  refine lv_aload_n hx hb dX7_putFour_23 rfl (lv_at hl 1 rfl) ?_
  refine va_get (D := D) (ci := 7) (v := .int 6) (C := RX7) (T := TX7) (N := 12) hx hb hts inX7 hown hK hP 0 rfl rfl 2 (by decide) (hts _ tw_89) (fun _ h9 => h9) rfl dX7_putFour_24 ?_
  refine lv_iload_n hx hb dX7_putFour_27 rfl (lv_at hl 2 rfl) ?_
  refine lv_iload_n hx hb dX7_putFour_28 rfl (lv_at hl 0 rfl) ?_
  obtain ⟨v_7, ev_7⟩ : ∃ y : Int32, ((Int32.toUInt32 v >>> (Int32.toUInt32 8 &&& Int32.toUInt32 31)).toInt32 : Int32) = y := ⟨_, rfl⟩
  refine lv_iushr (v := v_7) hx hb dX7_putFour_29 ev_7 ?_
  obtain ⟨v_8, ev_8⟩ : ∃ y : Int32, (v_7).toInt8.toInt32 = y := ⟨_, rfl⟩
  refine lv_i2b (v := v_8) hx hb dX7_putFour_30 ev_8 ?_
  refine va_bast hx hb hK hP hD hS 1 0 rfl rfl (vp_in_nI (n := 6) (N := 940) (by decide) (by decide)) dX7_putFour_31 (fun H locs hP hD hS => ?_)
  obtain ⟨g_9, eg_9⟩ : ∃ g, g = upd g_6 (Int32.toNatClampNeg 6) (vp_nar .byte v_8) := ⟨_, rfl⟩
  have hP : va_P D classes [(tp, .inr (7, [.ref t1, .ref t2, .int 6, .int sp, .int tl, .int bg, .int af, .int kd, .long nm, .int nb, .int ft, .int pl])), (t1, .inl (cy 0, 940, .inl g_9))] H := by rw [eg_9]; exact hP
  have hD : va_D A [(tp, .inr (7, [.ref t1, .ref t2, .int 6, .int sp, .int tl, .int bg, .int af, .int kd, .long nm, .int nb, .int ft, .int pl])), (t1, .inl (cy 0, 940, .inl g_9))] := by rw [eg_9]; exact hD
  refine lv_aload_n hx hb dX7_putFour_32 rfl (lv_at hl 1 rfl) ?_
  refine lv_dup hx hb dX7_putFour_33 rfl ?_
  refine va_get (D := D) (ci := 7) (v := .int 6) (C := RX7) (T := TX7) (N := 12) hx hb hts inX7 hown hK hP 0 rfl rfl 2 (by decide) (hts _ tw_89) (fun _ h9 => h9) rfl dX7_putFour_34 ?_
  refine lv_iconst (v := 1) hx hb dX7_putFour_37 (by decide) ?_
  refine lv_iadd hx hb dX7_putFour_38 ?_
  refine tI (y := 7) (by decide) ?_
  refine va_put (D := D) (ci := 7) (v := .int 7) (ty := .int) (C := RX7) (T := TX7) (N := 12) hx hb hts inX7 tyX7 tyX7_ok nmX7 hown hK hP hD hS 0 rfl rfl 2 (by decide) (hts _ tw_89) (fun _ h9 => h9) rfl (by decide +kernel) rfl rfl (Nat.le_of_ble_eq_true rfl) dX7_putFour_39 (fun H locs hP hD hS => ?_)
  have hP : va_P D classes [(tp, .inr (7, [.ref t1, .ref t2, .int 7, .int sp, .int tl, .int bg, .int af, .int kd, .long nm, .int nb, .int ft, .int pl])), (t1, .inl (cy 0, 940, .inl g_9))] H := hP
  have hD : va_D A [(tp, .inr (7, [.ref t1, .ref t2, .int 7, .int sp, .int tl, .int bg, .int af, .int kd, .long nm, .int nb, .int ft, .int pl])), (t1, .inl (cy 0, 940, .inl g_9))] := hD
  refine lv_iinc (v := 0) (lv' := [(2, .int 0), (0, .ref tp), (1, .int v)]) hx hb dX7_putFour_42 hl (k := 0) rfl (by decide) (by decide) rfl (fun ls hl => ?_)
  refine lv_goto (tgt := 3) hx hb dX7_putFour_45 (by decide) ?_
  refine lv_iload_n hx hb dX7_putFour_3 rfl (lv_at hl 0 rfl) ?_
  refine lv_if_lt (tgt := 48) hx hb dX7_putFour_4 (by decide) (fun c9 => absurd c9 (by decide)) (fun _ => ?_)
  refine lv_aload_n hx hb dX7_putFour_7 rfl (lv_at hl 1 rfl) ?_
  refine va_get (D := D) (ci := 7) (v := .int 7) (C := RX7) (T := TX7) (N := 12) hx hb hts inX7 hown hK hP 0 rfl rfl 2 (by decide) (hts _ tw_89) (fun _ h9 => h9) rfl dX7_putFour_8 ?_
  refine lv_aload_n hx hb dX7_putFour_11 rfl (lv_at hl 1 rfl) ?_
  refine va_get (D := D) (ci := 7) (v := .ref t1) (C := RX7) (T := TX7) (N := 12) hx hb hts inX7 hown hK hP 0 rfl rfl 0 (by decide) (hts _ tw_87) (fun _ h9 => h9) rfl dX7_putFour_12 ?_
  refine va_alen (v := 940) hx hb hK hP 1 0 rfl rfl rfl dX7_putFour_15 ?_
  refine lv_icmp_ge (tgt := 48) hx hb dX7_putFour_16 (by decide) (fun c9 => absurd c9 (by decide)) (fun _ => ?_)
  refine lv_aload_n hx hb dX7_putFour_19 rfl (lv_at hl 1 rfl) ?_
  refine va_get (D := D) (ci := 7) (v := .ref t1) (C := RX7) (T := TX7) (N := 12) hx hb hts inX7 hown hK hP 0 rfl rfl 0 (by decide) (hts _ tw_87) (fun _ h9 => h9) rfl dX7_putFour_20 ?_
  refine lv_aload_n hx hb dX7_putFour_23 rfl (lv_at hl 1 rfl) ?_
  refine va_get (D := D) (ci := 7) (v := .int 7) (C := RX7) (T := TX7) (N := 12) hx hb hts inX7 hown hK hP 0 rfl rfl 2 (by decide) (hts _ tw_89) (fun _ h9 => h9) rfl dX7_putFour_24 ?_
  refine lv_iload_n hx hb dX7_putFour_27 rfl (lv_at hl 2 rfl) ?_
  refine lv_iload_n hx hb dX7_putFour_28 rfl (lv_at hl 0 rfl) ?_
  obtain ⟨v_10, ev_10⟩ : ∃ y : Int32, ((Int32.toUInt32 v >>> (Int32.toUInt32 0 &&& Int32.toUInt32 31)).toInt32 : Int32) = y := ⟨_, rfl⟩
  refine lv_iushr (v := v_10) hx hb dX7_putFour_29 ev_10 ?_
  obtain ⟨v_11, ev_11⟩ : ∃ y : Int32, (v_10).toInt8.toInt32 = y := ⟨_, rfl⟩
  refine lv_i2b (v := v_11) hx hb dX7_putFour_30 ev_11 ?_
  refine va_bast hx hb hK hP hD hS 1 0 rfl rfl (vp_in_nI (n := 7) (N := 940) (by decide) (by decide)) dX7_putFour_31 (fun H locs hP hD hS => ?_)
  obtain ⟨g_12, eg_12⟩ : ∃ g, g = upd g_9 (Int32.toNatClampNeg 7) (vp_nar .byte v_11) := ⟨_, rfl⟩
  have hP : va_P D classes [(tp, .inr (7, [.ref t1, .ref t2, .int 7, .int sp, .int tl, .int bg, .int af, .int kd, .long nm, .int nb, .int ft, .int pl])), (t1, .inl (cy 0, 940, .inl g_12))] H := by rw [eg_12]; exact hP
  have hD : va_D A [(tp, .inr (7, [.ref t1, .ref t2, .int 7, .int sp, .int tl, .int bg, .int af, .int kd, .long nm, .int nb, .int ft, .int pl])), (t1, .inl (cy 0, 940, .inl g_12))] := by rw [eg_12]; exact hD
  refine lv_aload_n hx hb dX7_putFour_32 rfl (lv_at hl 1 rfl) ?_
  refine lv_dup hx hb dX7_putFour_33 rfl ?_
  refine va_get (D := D) (ci := 7) (v := .int 7) (C := RX7) (T := TX7) (N := 12) hx hb hts inX7 hown hK hP 0 rfl rfl 2 (by decide) (hts _ tw_89) (fun _ h9 => h9) rfl dX7_putFour_34 ?_
  refine lv_iconst (v := 1) hx hb dX7_putFour_37 (by decide) ?_
  refine lv_iadd hx hb dX7_putFour_38 ?_
  refine tI (y := 8) (by decide) ?_
  refine va_put (D := D) (ci := 7) (v := .int 8) (ty := .int) (C := RX7) (T := TX7) (N := 12) hx hb hts inX7 tyX7 tyX7_ok nmX7 hown hK hP hD hS 0 rfl rfl 2 (by decide) (hts _ tw_89) (fun _ h9 => h9) rfl (by decide +kernel) rfl rfl (Nat.le_of_ble_eq_true rfl) dX7_putFour_39 (fun H locs hP hD hS => ?_)
  have hP : va_P D classes [(tp, .inr (7, [.ref t1, .ref t2, .int 8, .int sp, .int tl, .int bg, .int af, .int kd, .long nm, .int nb, .int ft, .int pl])), (t1, .inl (cy 0, 940, .inl g_12))] H := hP
  have hD : va_D A [(tp, .inr (7, [.ref t1, .ref t2, .int 8, .int sp, .int tl, .int bg, .int af, .int kd, .long nm, .int nb, .int ft, .int pl])), (t1, .inl (cy 0, 940, .inl g_12))] := hD
  refine lv_iinc (v := (-8)) (lv' := [(2, .int (-8)), (0, .ref tp), (1, .int v)]) hx hb dX7_putFour_42 hl (k := 0) rfl (by decide) (by decide) rfl (fun ls hl => ?_)
  refine lv_goto (tgt := 3) hx hb dX7_putFour_45 (by decide) ?_
  refine lv_iload_n hx hb dX7_putFour_3 rfl (lv_at hl 0 rfl) ?_
  refine lv_if_lt (tgt := 48) hx hb dX7_putFour_4 (by decide) (fun _ => ?_) (fun c9 => absurd (by decide) c9)
  have hP9 : va_P D classes [(tp, .inr (7, [.ref t1, .ref t2, .int 8, .int sp, .int tl, .int bg, .int af, .int kd, .long nm, .int nb, .int ft, .int pl])), (t1, .inl (cy 0, 940, .inl g_12))] H := subP hP [0, 1] rfl
  have hD9 : va_D A [(tp, .inr (7, [.ref t1, .ref t2, .int 8, .int sp, .int tl, .int bg, .int af, .int kd, .long nm, .int nb, .int ft, .int pl])), (t1, .inl (cy 0, 940, .inl g_12))] := hD.sub [0, 1] (by decide) rfl
  exact W.vret hx hb hr (fun t ht hW => ⟨⟨((g_12)), rfl, trivial, by rw [ht]; exact hP9, va_K.moved hW.alike hK, hD9⟩, hS.F ht⟩) hS.2.2 dX7_putFour_48
set_option maxHeartbeats 4000000 in
set_option maxRecDepth 100000 in
theorem c_T_putFour8 (l : Launch) (D : va_G) (cy : Nat → ClassId) (z : Nat → Nat) (sz : Nat) (tp : Nat) (t1 : Nat) (t2 : Nat) (sp : Int32) (tl : Int32) (bg : Int32) (af : Int32) (kd : Int32) (nm : Int64) (nb : Int32) (ft : Int32) (pl : Int32) (f : Nat → Int32) (v : Int32) : Met l yX7_putFour (Cond.code yX7_putFour cX7_putFour 3 none :: gT) ({ frames := 0, cells := 0, slots := 0, locals := 200 } : Room) (va_Pc [.ref tp, .int v] (PRE D cy z [(tp, .inr (7, [.ref t1, .ref t2, .int 8, .int sp, .int tl, .int bg, .int af, .int kd, .long nm, .int nb, .int ft, .int pl])), (t1, .inl (cy 0, 940, .inl f))] sz)) (va_Qv (fun (u : (Nat → Int32)) => True) (BB D cy (va_A [(tp, .inr (7, [.ref t1, .ref t2, .int 8, .int sp, .int tl, .int bg, .int af, .int kd, .long nm, .int nb, .int ft, .int pl])), (t1, .inl (cy 0, 940, .inl f))] sz) (fun (u : (Nat → Int32)) => [(tp, .inr (7, [.ref t1, .ref t2, .int 12, .int sp, .int tl, .int bg, .int af, .int kd, .long nm, .int nb, .int ft, .int pl])), (t1, .inl (cy 0, 940, .inl u))])) (va_A [(tp, .inr (7, [.ref t1, .ref t2, .int 8, .int sp, .int tl, .int bg, .int af, .int kd, .long nm, .int nb, .int ft, .int pl])), (t1, .inl (cy 0, 940, .inl f))] sz)) 0 0 (va_A [(tp, .inr (7, [.ref t1, .ref t2, .int 8, .int sp, .int tl, .int bg, .int af, .int kd, .long nm, .int nb, .int ft, .int pl])), (t1, .inl (cy 0, 940, .inl f))] sz) := by
  refine Met.ofW (cc := cX7_putFour) (maxL := 3) (ret := none) (by decide) rfl ?_
  intro p e s m args below meth c s₁ B hml hv
  obtain ⟨rfl, hsz, hP, hK, hD0, hSD⟩ := hv
  have hx := B.exec
  have hb := B.bytes
  have hr := B.returns
  have hlocks := B.notSynchronized
  have hts : ∀ w ∈ gT, w.before _ s = true := fun w h => atoms_spec (ws := Cond.code yX7_putFour cX7_putFour 3 none :: gT) B.pre w (List.mem_cons_of_mem _ h)
  have hown : s.vm.findClass RX7 = some m.cls := findClass_of_methodNamed B.named
  subst hsz
  have hD := hD0.self (sz := s.heap.size)
  generalize hAe : va_A [(tp, .inr (7, [.ref t1, .ref t2, .int 8, .int sp, .int tl, .int bg, .int af, .int kd, .long nm, .int nb, .int ft, .int pl])), (t1, .inl (cy 0, 940, .inl f))] s.heap.size = A at hD hSD ⊢
  have hA : ∀ q : Nat, s.heap.size ≤ q → A q := fun q h => by rw [← hAe]; exact Or.inr h
  have hS : va_S A s.heap s.heap [] := va_S.rf
  have hl := lv_entry ([.ref tp, .int v]) (n := 3) (Nat.le_of_ble_eq_true rfl)
  rw [lg_entry_eq]
  generalize (lg_sl ([.ref tp, .int v]) ++ List.replicate (3 - (lg_sl ([.ref tp, .int v])).length) Slot.unset).toArray = ls at hl ⊢
  have hl : lv_has ls 3 [(0, .ref tp), (1, .int v)] := hl
  refine lv_bipush (v := 24) hx hb dX7_putFour_0 (by decide) ?_
  refine lv_istore_n (lv' := [(2, .int 24), (0, .ref tp), (1, .int v)]) hx hb dX7_putFour_2 rfl hl (by decide) rfl (fun ls hl => ?_)
  refine lv_iload_n hx hb dX7_putFour_3 rfl (lv_at hl 0 rfl) ?_
  refine lv_if_lt (tgt := 48) hx hb dX7_putFour_4 (by decide) (fun c9 => absurd c9 (by decide)) (fun _ => ?_)
  refine lv_aload_n hx hb dX7_putFour_7 rfl (lv_at hl 1 rfl) ?_
  refine va_get (D := D) (ci := 7) (v := .int 8) (C := RX7) (T := TX7) (N := 12) hx hb hts inX7 hown hK hP 0 rfl rfl 2 (by decide) (hts _ tw_89) (fun _ h9 => h9) rfl dX7_putFour_8 ?_
  refine lv_aload_n hx hb dX7_putFour_11 rfl (lv_at hl 1 rfl) ?_
  refine va_get (D := D) (ci := 7) (v := .ref t1) (C := RX7) (T := TX7) (N := 12) hx hb hts inX7 hown hK hP 0 rfl rfl 0 (by decide) (hts _ tw_87) (fun _ h9 => h9) rfl dX7_putFour_12 ?_
  refine va_alen (v := 940) hx hb hK hP 1 0 rfl rfl rfl dX7_putFour_15 ?_
  refine lv_icmp_ge (tgt := 48) hx hb dX7_putFour_16 (by decide) (fun c9 => absurd c9 (by decide)) (fun _ => ?_)
  refine lv_aload_n hx hb dX7_putFour_19 rfl (lv_at hl 1 rfl) ?_
  refine va_get (D := D) (ci := 7) (v := .ref t1) (C := RX7) (T := TX7) (N := 12) hx hb hts inX7 hown hK hP 0 rfl rfl 0 (by decide) (hts _ tw_87) (fun _ h9 => h9) rfl dX7_putFour_20 ?_
  refine lv_aload_n hx hb dX7_putFour_23 rfl (lv_at hl 1 rfl) ?_
  refine va_get (D := D) (ci := 7) (v := .int 8) (C := RX7) (T := TX7) (N := 12) hx hb hts inX7 hown hK hP 0 rfl rfl 2 (by decide) (hts _ tw_89) (fun _ h9 => h9) rfl dX7_putFour_24 ?_
  refine lv_iload_n hx hb dX7_putFour_27 rfl (lv_at hl 2 rfl) ?_
  refine lv_iload_n hx hb dX7_putFour_28 rfl (lv_at hl 0 rfl) ?_
  obtain ⟨v_1, ev_1⟩ : ∃ y : Int32, ((Int32.toUInt32 v >>> (Int32.toUInt32 24 &&& Int32.toUInt32 31)).toInt32 : Int32) = y := ⟨_, rfl⟩
  refine lv_iushr (v := v_1) hx hb dX7_putFour_29 ev_1 ?_
  obtain ⟨v_2, ev_2⟩ : ∃ y : Int32, (v_1).toInt8.toInt32 = y := ⟨_, rfl⟩
  refine lv_i2b (v := v_2) hx hb dX7_putFour_30 ev_2 ?_
  refine va_bast hx hb hK hP hD hS 1 0 rfl rfl (vp_in_nI (n := 8) (N := 940) (by decide) (by decide)) dX7_putFour_31 (fun H locs hP hD hS => ?_)
  obtain ⟨g_3, eg_3⟩ : ∃ g, g = upd f (Int32.toNatClampNeg 8) (vp_nar .byte v_2) := ⟨_, rfl⟩
  have hP : va_P D classes [(tp, .inr (7, [.ref t1, .ref t2, .int 8, .int sp, .int tl, .int bg, .int af, .int kd, .long nm, .int nb, .int ft, .int pl])), (t1, .inl (cy 0, 940, .inl g_3))] H := by rw [eg_3]; exact hP
  have hD : va_D A [(tp, .inr (7, [.ref t1, .ref t2, .int 8, .int sp, .int tl, .int bg, .int af, .int kd, .long nm, .int nb, .int ft, .int pl])), (t1, .inl (cy 0, 940, .inl g_3))] := by rw [eg_3]; exact hD
  refine lv_aload_n hx hb dX7_putFour_32 rfl (lv_at hl 1 rfl) ?_
  refine lv_dup hx hb dX7_putFour_33 rfl ?_
  refine va_get (D := D) (ci := 7) (v := .int 8) (C := RX7) (T := TX7) (N := 12) hx hb hts inX7 hown hK hP 0 rfl rfl 2 (by decide) (hts _ tw_89) (fun _ h9 => h9) rfl dX7_putFour_34 ?_
  refine lv_iconst (v := 1) hx hb dX7_putFour_37 (by decide) ?_
  refine lv_iadd hx hb dX7_putFour_38 ?_
  refine tI (y := 9) (by decide) ?_
  refine va_put (D := D) (ci := 7) (v := .int 9) (ty := .int) (C := RX7) (T := TX7) (N := 12) hx hb hts inX7 tyX7 tyX7_ok nmX7 hown hK hP hD hS 0 rfl rfl 2 (by decide) (hts _ tw_89) (fun _ h9 => h9) rfl (by decide +kernel) rfl rfl (Nat.le_of_ble_eq_true rfl) dX7_putFour_39 (fun H locs hP hD hS => ?_)
  have hP : va_P D classes [(tp, .inr (7, [.ref t1, .ref t2, .int 9, .int sp, .int tl, .int bg, .int af, .int kd, .long nm, .int nb, .int ft, .int pl])), (t1, .inl (cy 0, 940, .inl g_3))] H := hP
  have hD : va_D A [(tp, .inr (7, [.ref t1, .ref t2, .int 9, .int sp, .int tl, .int bg, .int af, .int kd, .long nm, .int nb, .int ft, .int pl])), (t1, .inl (cy 0, 940, .inl g_3))] := hD
  refine lv_iinc (v := 16) (lv' := [(2, .int 16), (0, .ref tp), (1, .int v)]) hx hb dX7_putFour_42 hl (k := 0) rfl (by decide) (by decide) rfl (fun ls hl => ?_)
  refine lv_goto (tgt := 3) hx hb dX7_putFour_45 (by decide) ?_
  refine lv_iload_n hx hb dX7_putFour_3 rfl (lv_at hl 0 rfl) ?_
  refine lv_if_lt (tgt := 48) hx hb dX7_putFour_4 (by decide) (fun c9 => absurd c9 (by decide)) (fun _ => ?_)
  refine lv_aload_n hx hb dX7_putFour_7 rfl (lv_at hl 1 rfl) ?_
  refine va_get (D := D) (ci := 7) (v := .int 9) (C := RX7) (T := TX7) (N := 12) hx hb hts inX7 hown hK hP 0 rfl rfl 2 (by decide) (hts _ tw_89) (fun _ h9 => h9) rfl dX7_putFour_8 ?_
  refine lv_aload_n hx hb dX7_putFour_11 rfl (lv_at hl 1 rfl) ?_
  refine va_get (D := D) (ci := 7) (v := .ref t1) (C := RX7) (T := TX7) (N := 12) hx hb hts inX7 hown hK hP 0 rfl rfl 0 (by decide) (hts _ tw_87) (fun _ h9 => h9) rfl dX7_putFour_12 ?_
  refine va_alen (v := 940) hx hb hK hP 1 0 rfl rfl rfl dX7_putFour_15 ?_
  refine lv_icmp_ge (tgt := 48) hx hb dX7_putFour_16 (by decide) (fun c9 => absurd c9 (by decide)) (fun _ => ?_)
  refine lv_aload_n hx hb dX7_putFour_19 rfl (lv_at hl 1 rfl) ?_
  refine va_get (D := D) (ci := 7) (v := .ref t1) (C := RX7) (T := TX7) (N := 12) hx hb hts inX7 hown hK hP 0 rfl rfl 0 (by decide) (hts _ tw_87) (fun _ h9 => h9) rfl dX7_putFour_20 ?_
  refine lv_aload_n hx hb dX7_putFour_23 rfl (lv_at hl 1 rfl) ?_
  refine va_get (D := D) (ci := 7) (v := .int 9) (C := RX7) (T := TX7) (N := 12) hx hb hts inX7 hown hK hP 0 rfl rfl 2 (by decide) (hts _ tw_89) (fun _ h9 => h9) rfl dX7_putFour_24 ?_
  refine lv_iload_n hx hb dX7_putFour_27 rfl (lv_at hl 2 rfl) ?_
  refine lv_iload_n hx hb dX7_putFour_28 rfl (lv_at hl 0 rfl) ?_
  obtain ⟨v_4, ev_4⟩ : ∃ y : Int32, ((Int32.toUInt32 v >>> (Int32.toUInt32 16 &&& Int32.toUInt32 31)).toInt32 : Int32) = y := ⟨_, rfl⟩
  refine lv_iushr (v := v_4) hx hb dX7_putFour_29 ev_4 ?_
  obtain ⟨v_5, ev_5⟩ : ∃ y : Int32, (v_4).toInt8.toInt32 = y := ⟨_, rfl⟩
  refine lv_i2b (v := v_5) hx hb dX7_putFour_30 ev_5 ?_
  refine va_bast hx hb hK hP hD hS 1 0 rfl rfl (vp_in_nI (n := 9) (N := 940) (by decide) (by decide)) dX7_putFour_31 (fun H locs hP hD hS => ?_)
  obtain ⟨g_6, eg_6⟩ : ∃ g, g = upd g_3 (Int32.toNatClampNeg 9) (vp_nar .byte v_5) := ⟨_, rfl⟩
  have hP : va_P D classes [(tp, .inr (7, [.ref t1, .ref t2, .int 9, .int sp, .int tl, .int bg, .int af, .int kd, .long nm, .int nb, .int ft, .int pl])), (t1, .inl (cy 0, 940, .inl g_6))] H := by rw [eg_6]; exact hP
  have hD : va_D A [(tp, .inr (7, [.ref t1, .ref t2, .int 9, .int sp, .int tl, .int bg, .int af, .int kd, .long nm, .int nb, .int ft, .int pl])), (t1, .inl (cy 0, 940, .inl g_6))] := by rw [eg_6]; exact hD
  refine lv_aload_n hx hb dX7_putFour_32 rfl (lv_at hl 1 rfl) ?_
  refine lv_dup hx hb dX7_putFour_33 rfl ?_
  refine va_get (D := D) (ci := 7) (v := .int 9) (C := RX7) (T := TX7) (N := 12) hx hb hts inX7 hown hK hP 0 rfl rfl 2 (by decide) (hts _ tw_89) (fun _ h9 => h9) rfl dX7_putFour_34 ?_
  refine lv_iconst (v := 1) hx hb dX7_putFour_37 (by decide) ?_
  refine lv_iadd hx hb dX7_putFour_38 ?_
  refine tI (y := 10) (by decide) ?_
  refine va_put (D := D) (ci := 7) (v := .int 10) (ty := .int) (C := RX7) (T := TX7) (N := 12) hx hb hts inX7 tyX7 tyX7_ok nmX7 hown hK hP hD hS 0 rfl rfl 2 (by decide) (hts _ tw_89) (fun _ h9 => h9) rfl (by decide +kernel) rfl rfl (Nat.le_of_ble_eq_true rfl) dX7_putFour_39 (fun H locs hP hD hS => ?_)
  have hP : va_P D classes [(tp, .inr (7, [.ref t1, .ref t2, .int 10, .int sp, .int tl, .int bg, .int af, .int kd, .long nm, .int nb, .int ft, .int pl])), (t1, .inl (cy 0, 940, .inl g_6))] H := hP
  have hD : va_D A [(tp, .inr (7, [.ref t1, .ref t2, .int 10, .int sp, .int tl, .int bg, .int af, .int kd, .long nm, .int nb, .int ft, .int pl])), (t1, .inl (cy 0, 940, .inl g_6))] := hD
  refine lv_iinc (v := 8) (lv' := [(2, .int 8), (0, .ref tp), (1, .int v)]) hx hb dX7_putFour_42 hl (k := 0) rfl (by decide) (by decide) rfl (fun ls hl => ?_)
  refine lv_goto (tgt := 3) hx hb dX7_putFour_45 (by decide) ?_
  refine lv_iload_n hx hb dX7_putFour_3 rfl (lv_at hl 0 rfl) ?_
  refine lv_if_lt (tgt := 48) hx hb dX7_putFour_4 (by decide) (fun c9 => absurd c9 (by decide)) (fun _ => ?_)
  refine lv_aload_n hx hb dX7_putFour_7 rfl (lv_at hl 1 rfl) ?_
  refine va_get (D := D) (ci := 7) (v := .int 10) (C := RX7) (T := TX7) (N := 12) hx hb hts inX7 hown hK hP 0 rfl rfl 2 (by decide) (hts _ tw_89) (fun _ h9 => h9) rfl dX7_putFour_8 ?_
  refine lv_aload_n hx hb dX7_putFour_11 rfl (lv_at hl 1 rfl) ?_
  refine va_get (D := D) (ci := 7) (v := .ref t1) (C := RX7) (T := TX7) (N := 12) hx hb hts inX7 hown hK hP 0 rfl rfl 0 (by decide) (hts _ tw_87) (fun _ h9 => h9) rfl dX7_putFour_12 ?_
  refine va_alen (v := 940) hx hb hK hP 1 0 rfl rfl rfl dX7_putFour_15 ?_
  refine lv_icmp_ge (tgt := 48) hx hb dX7_putFour_16 (by decide) (fun c9 => absurd c9 (by decide)) (fun _ => ?_)
  refine lv_aload_n hx hb dX7_putFour_19 rfl (lv_at hl 1 rfl) ?_
  refine va_get (D := D) (ci := 7) (v := .ref t1) (C := RX7) (T := TX7) (N := 12) hx hb hts inX7 hown hK hP 0 rfl rfl 0 (by decide) (hts _ tw_87) (fun _ h9 => h9) rfl dX7_putFour_20 ?_
  refine lv_aload_n hx hb dX7_putFour_23 rfl (lv_at hl 1 rfl) ?_
  refine va_get (D := D) (ci := 7) (v := .int 10) (C := RX7) (T := TX7) (N := 12) hx hb hts inX7 hown hK hP 0 rfl rfl 2 (by decide) (hts _ tw_89) (fun _ h9 => h9) rfl dX7_putFour_24 ?_
  refine lv_iload_n hx hb dX7_putFour_27 rfl (lv_at hl 2 rfl) ?_
  refine lv_iload_n hx hb dX7_putFour_28 rfl (lv_at hl 0 rfl) ?_
  obtain ⟨v_7, ev_7⟩ : ∃ y : Int32, ((Int32.toUInt32 v >>> (Int32.toUInt32 8 &&& Int32.toUInt32 31)).toInt32 : Int32) = y := ⟨_, rfl⟩
  refine lv_iushr (v := v_7) hx hb dX7_putFour_29 ev_7 ?_
  obtain ⟨v_8, ev_8⟩ : ∃ y : Int32, (v_7).toInt8.toInt32 = y := ⟨_, rfl⟩
  refine lv_i2b (v := v_8) hx hb dX7_putFour_30 ev_8 ?_
  refine va_bast hx hb hK hP hD hS 1 0 rfl rfl (vp_in_nI (n := 10) (N := 940) (by decide) (by decide)) dX7_putFour_31 (fun H locs hP hD hS => ?_)
  obtain ⟨g_9, eg_9⟩ : ∃ g, g = upd g_6 (Int32.toNatClampNeg 10) (vp_nar .byte v_8) := ⟨_, rfl⟩
  have hP : va_P D classes [(tp, .inr (7, [.ref t1, .ref t2, .int 10, .int sp, .int tl, .int bg, .int af, .int kd, .long nm, .int nb, .int ft, .int pl])), (t1, .inl (cy 0, 940, .inl g_9))] H := by rw [eg_9]; exact hP
  have hD : va_D A [(tp, .inr (7, [.ref t1, .ref t2, .int 10, .int sp, .int tl, .int bg, .int af, .int kd, .long nm, .int nb, .int ft, .int pl])), (t1, .inl (cy 0, 940, .inl g_9))] := by rw [eg_9]; exact hD
  refine lv_aload_n hx hb dX7_putFour_32 rfl (lv_at hl 1 rfl) ?_
  refine lv_dup hx hb dX7_putFour_33 rfl ?_
  refine va_get (D := D) (ci := 7) (v := .int 10) (C := RX7) (T := TX7) (N := 12) hx hb hts inX7 hown hK hP 0 rfl rfl 2 (by decide) (hts _ tw_89) (fun _ h9 => h9) rfl dX7_putFour_34 ?_
  refine lv_iconst (v := 1) hx hb dX7_putFour_37 (by decide) ?_
  refine lv_iadd hx hb dX7_putFour_38 ?_
  refine tI (y := 11) (by decide) ?_
  refine va_put (D := D) (ci := 7) (v := .int 11) (ty := .int) (C := RX7) (T := TX7) (N := 12) hx hb hts inX7 tyX7 tyX7_ok nmX7 hown hK hP hD hS 0 rfl rfl 2 (by decide) (hts _ tw_89) (fun _ h9 => h9) rfl (by decide +kernel) rfl rfl (Nat.le_of_ble_eq_true rfl) dX7_putFour_39 (fun H locs hP hD hS => ?_)
  have hP : va_P D classes [(tp, .inr (7, [.ref t1, .ref t2, .int 11, .int sp, .int tl, .int bg, .int af, .int kd, .long nm, .int nb, .int ft, .int pl])), (t1, .inl (cy 0, 940, .inl g_9))] H := hP
  have hD : va_D A [(tp, .inr (7, [.ref t1, .ref t2, .int 11, .int sp, .int tl, .int bg, .int af, .int kd, .long nm, .int nb, .int ft, .int pl])), (t1, .inl (cy 0, 940, .inl g_9))] := hD
  refine lv_iinc (v := 0) (lv' := [(2, .int 0), (0, .ref tp), (1, .int v)]) hx hb dX7_putFour_42 hl (k := 0) rfl (by decide) (by decide) rfl (fun ls hl => ?_)
  refine lv_goto (tgt := 3) hx hb dX7_putFour_45 (by decide) ?_
  refine lv_iload_n hx hb dX7_putFour_3 rfl (lv_at hl 0 rfl) ?_
  refine lv_if_lt (tgt := 48) hx hb dX7_putFour_4 (by decide) (fun c9 => absurd c9 (by decide)) (fun _ => ?_)
  refine lv_aload_n hx hb dX7_putFour_7 rfl (lv_at hl 1 rfl) ?_
  refine va_get (D := D) (ci := 7) (v := .int 11) (C := RX7) (T := TX7) (N := 12) hx hb hts inX7 hown hK hP 0 rfl rfl 2 (by decide) (hts _ tw_89) (fun _ h9 => h9) rfl dX7_putFour_8 ?_
  refine lv_aload_n hx hb dX7_putFour_11 rfl (lv_at hl 1 rfl) ?_
  refine va_get (D := D) (ci := 7) (v := .ref t1) (C := RX7) (T := TX7) (N := 12) hx hb hts inX7 hown hK hP 0 rfl rfl 0 (by decide) (hts _ tw_87) (fun _ h9 => h9) rfl dX7_putFour_12 ?_
  refine va_alen (v := 940) hx hb hK hP 1 0 rfl rfl rfl dX7_putFour_15 ?_
  refine lv_icmp_ge (tgt := 48) hx hb dX7_putFour_16 (by decide) (fun c9 => absurd c9 (by decide)) (fun _ => ?_)
  refine lv_aload_n hx hb dX7_putFour_19 rfl (lv_at hl 1 rfl) ?_
  refine va_get (D := D) (ci := 7) (v := .ref t1) (C := RX7) (T := TX7) (N := 12) hx hb hts inX7 hown hK hP 0 rfl rfl 0 (by decide) (hts _ tw_87) (fun _ h9 => h9) rfl dX7_putFour_20 ?_
  refine lv_aload_n hx hb dX7_putFour_23 rfl (lv_at hl 1 rfl) ?_
  refine va_get (D := D) (ci := 7) (v := .int 11) (C := RX7) (T := TX7) (N := 12) hx hb hts inX7 hown hK hP 0 rfl rfl 2 (by decide) (hts _ tw_89) (fun _ h9 => h9) rfl dX7_putFour_24 ?_
  refine lv_iload_n hx hb dX7_putFour_27 rfl (lv_at hl 2 rfl) ?_
  refine lv_iload_n hx hb dX7_putFour_28 rfl (lv_at hl 0 rfl) ?_
  obtain ⟨v_10, ev_10⟩ : ∃ y : Int32, ((Int32.toUInt32 v >>> (Int32.toUInt32 0 &&& Int32.toUInt32 31)).toInt32 : Int32) = y := ⟨_, rfl⟩
  refine lv_iushr (v := v_10) hx hb dX7_putFour_29 ev_10 ?_
  obtain ⟨v_11, ev_11⟩ : ∃ y : Int32, (v_10).toInt8.toInt32 = y := ⟨_, rfl⟩
  refine lv_i2b (v := v_11) hx hb dX7_putFour_30 ev_11 ?_
  refine va_bast hx hb hK hP hD hS 1 0 rfl rfl (vp_in_nI (n := 11) (N := 940) (by decide) (by decide)) dX7_putFour_31 (fun H locs hP hD hS => ?_)
  obtain ⟨g_12, eg_12⟩ : ∃ g, g = upd g_9 (Int32.toNatClampNeg 11) (vp_nar .byte v_11) := ⟨_, rfl⟩
  have hP : va_P D classes [(tp, .inr (7, [.ref t1, .ref t2, .int 11, .int sp, .int tl, .int bg, .int af, .int kd, .long nm, .int nb, .int ft, .int pl])), (t1, .inl (cy 0, 940, .inl g_12))] H := by rw [eg_12]; exact hP
  have hD : va_D A [(tp, .inr (7, [.ref t1, .ref t2, .int 11, .int sp, .int tl, .int bg, .int af, .int kd, .long nm, .int nb, .int ft, .int pl])), (t1, .inl (cy 0, 940, .inl g_12))] := by rw [eg_12]; exact hD
  refine lv_aload_n hx hb dX7_putFour_32 rfl (lv_at hl 1 rfl) ?_
  refine lv_dup hx hb dX7_putFour_33 rfl ?_
  refine va_get (D := D) (ci := 7) (v := .int 11) (C := RX7) (T := TX7) (N := 12) hx hb hts inX7 hown hK hP 0 rfl rfl 2 (by decide) (hts _ tw_89) (fun _ h9 => h9) rfl dX7_putFour_34 ?_
  refine lv_iconst (v := 1) hx hb dX7_putFour_37 (by decide) ?_
  refine lv_iadd hx hb dX7_putFour_38 ?_
  refine tI (y := 12) (by decide) ?_
  refine va_put (D := D) (ci := 7) (v := .int 12) (ty := .int) (C := RX7) (T := TX7) (N := 12) hx hb hts inX7 tyX7 tyX7_ok nmX7 hown hK hP hD hS 0 rfl rfl 2 (by decide) (hts _ tw_89) (fun _ h9 => h9) rfl (by decide +kernel) rfl rfl (Nat.le_of_ble_eq_true rfl) dX7_putFour_39 (fun H locs hP hD hS => ?_)
  have hP : va_P D classes [(tp, .inr (7, [.ref t1, .ref t2, .int 12, .int sp, .int tl, .int bg, .int af, .int kd, .long nm, .int nb, .int ft, .int pl])), (t1, .inl (cy 0, 940, .inl g_12))] H := hP
  have hD : va_D A [(tp, .inr (7, [.ref t1, .ref t2, .int 12, .int sp, .int tl, .int bg, .int af, .int kd, .long nm, .int nb, .int ft, .int pl])), (t1, .inl (cy 0, 940, .inl g_12))] := hD
  refine lv_iinc (v := (-8)) (lv' := [(2, .int (-8)), (0, .ref tp), (1, .int v)]) hx hb dX7_putFour_42 hl (k := 0) rfl (by decide) (by decide) rfl (fun ls hl => ?_)
  refine lv_goto (tgt := 3) hx hb dX7_putFour_45 (by decide) ?_
  refine lv_iload_n hx hb dX7_putFour_3 rfl (lv_at hl 0 rfl) ?_
  refine lv_if_lt (tgt := 48) hx hb dX7_putFour_4 (by decide) (fun _ => ?_) (fun c9 => absurd (by decide) c9)
  have hP9 : va_P D classes [(tp, .inr (7, [.ref t1, .ref t2, .int 12, .int sp, .int tl, .int bg, .int af, .int kd, .long nm, .int nb, .int ft, .int pl])), (t1, .inl (cy 0, 940, .inl g_12))] H := subP hP [0, 1] rfl
  have hD9 : va_D A [(tp, .inr (7, [.ref t1, .ref t2, .int 12, .int sp, .int tl, .int bg, .int af, .int kd, .long nm, .int nb, .int ft, .int pl])), (t1, .inl (cy 0, 940, .inl g_12))] := hD.sub [0, 1] (by decide) rfl
  exact W.vret hx hb hr (fun t ht hW => ⟨⟨((g_12)), rfl, trivial, by rw [ht]; exact hP9, va_K.moved hW.alike hK, hD9⟩, hS.F ht⟩) hS.2.2 dX7_putFour_48
set_option maxHeartbeats 4000000 in
set_option maxRecDepth 100000 in
theorem c_T_putFour12 (l : Launch) (D : va_G) (cy : Nat → ClassId) (z : Nat → Nat) (sz : Nat) (tp : Nat) (t1 : Nat) (t2 : Nat) (sp : Int32) (tl : Int32) (bg : Int32) (af : Int32) (kd : Int32) (nm : Int64) (nb : Int32) (ft : Int32) (pl : Int32) (f : Nat → Int32) (v : Int32) : Met l yX7_putFour (Cond.code yX7_putFour cX7_putFour 3 none :: gT) ({ frames := 0, cells := 0, slots := 0, locals := 200 } : Room) (va_Pc [.ref tp, .int v] (PRE D cy z [(tp, .inr (7, [.ref t1, .ref t2, .int 12, .int sp, .int tl, .int bg, .int af, .int kd, .long nm, .int nb, .int ft, .int pl])), (t1, .inl (cy 0, 940, .inl f))] sz)) (va_Qv (fun (u : (Nat → Int32)) => True) (BB D cy (va_A [(tp, .inr (7, [.ref t1, .ref t2, .int 12, .int sp, .int tl, .int bg, .int af, .int kd, .long nm, .int nb, .int ft, .int pl])), (t1, .inl (cy 0, 940, .inl f))] sz) (fun (u : (Nat → Int32)) => [(tp, .inr (7, [.ref t1, .ref t2, .int 16, .int sp, .int tl, .int bg, .int af, .int kd, .long nm, .int nb, .int ft, .int pl])), (t1, .inl (cy 0, 940, .inl u))])) (va_A [(tp, .inr (7, [.ref t1, .ref t2, .int 12, .int sp, .int tl, .int bg, .int af, .int kd, .long nm, .int nb, .int ft, .int pl])), (t1, .inl (cy 0, 940, .inl f))] sz)) 0 0 (va_A [(tp, .inr (7, [.ref t1, .ref t2, .int 12, .int sp, .int tl, .int bg, .int af, .int kd, .long nm, .int nb, .int ft, .int pl])), (t1, .inl (cy 0, 940, .inl f))] sz) := by
  refine Met.ofW (cc := cX7_putFour) (maxL := 3) (ret := none) (by decide) rfl ?_
  intro p e s m args below meth c s₁ B hml hv
  obtain ⟨rfl, hsz, hP, hK, hD0, hSD⟩ := hv
  have hx := B.exec
  have hb := B.bytes
  have hr := B.returns
  have hlocks := B.notSynchronized
  have hts : ∀ w ∈ gT, w.before _ s = true := fun w h => atoms_spec (ws := Cond.code yX7_putFour cX7_putFour 3 none :: gT) B.pre w (List.mem_cons_of_mem _ h)
  have hown : s.vm.findClass RX7 = some m.cls := findClass_of_methodNamed B.named
  subst hsz
  have hD := hD0.self (sz := s.heap.size)
  generalize hAe : va_A [(tp, .inr (7, [.ref t1, .ref t2, .int 12, .int sp, .int tl, .int bg, .int af, .int kd, .long nm, .int nb, .int ft, .int pl])), (t1, .inl (cy 0, 940, .inl f))] s.heap.size = A at hD hSD ⊢
  have hA : ∀ q : Nat, s.heap.size ≤ q → A q := fun q h => by rw [← hAe]; exact Or.inr h
  have hS : va_S A s.heap s.heap [] := va_S.rf
  have hl := lv_entry ([.ref tp, .int v]) (n := 3) (Nat.le_of_ble_eq_true rfl)
  rw [lg_entry_eq]
  generalize (lg_sl ([.ref tp, .int v]) ++ List.replicate (3 - (lg_sl ([.ref tp, .int v])).length) Slot.unset).toArray = ls at hl ⊢
  have hl : lv_has ls 3 [(0, .ref tp), (1, .int v)] := hl
  refine lv_bipush (v := 24) hx hb dX7_putFour_0 (by decide) ?_
  refine lv_istore_n (lv' := [(2, .int 24), (0, .ref tp), (1, .int v)]) hx hb dX7_putFour_2 rfl hl (by decide) rfl (fun ls hl => ?_)
  refine lv_iload_n hx hb dX7_putFour_3 rfl (lv_at hl 0 rfl) ?_
  refine lv_if_lt (tgt := 48) hx hb dX7_putFour_4 (by decide) (fun c9 => absurd c9 (by decide)) (fun _ => ?_)
  refine lv_aload_n hx hb dX7_putFour_7 rfl (lv_at hl 1 rfl) ?_
  refine va_get (D := D) (ci := 7) (v := .int 12) (C := RX7) (T := TX7) (N := 12) hx hb hts inX7 hown hK hP 0 rfl rfl 2 (by decide) (hts _ tw_89) (fun _ h9 => h9) rfl dX7_putFour_8 ?_
  refine lv_aload_n hx hb dX7_putFour_11 rfl (lv_at hl 1 rfl) ?_
  refine va_get (D := D) (ci := 7) (v := .ref t1) (C := RX7) (T := TX7) (N := 12) hx hb hts inX7 hown hK hP 0 rfl rfl 0 (by decide) (hts _ tw_87) (fun _ h9 => h9) rfl dX7_putFour_12 ?_
  refine va_alen (v := 940) hx hb hK hP 1 0 rfl rfl rfl dX7_putFour_15 ?_
  refine lv_icmp_ge (tgt := 48) hx hb dX7_putFour_16 (by decide) (fun c9 => absurd c9 (by decide)) (fun _ => ?_)
  refine lv_aload_n hx hb dX7_putFour_19 rfl (lv_at hl 1 rfl) ?_
  refine va_get (D := D) (ci := 7) (v := .ref t1) (C := RX7) (T := TX7) (N := 12) hx hb hts inX7 hown hK hP 0 rfl rfl 0 (by decide) (hts _ tw_87) (fun _ h9 => h9) rfl dX7_putFour_20 ?_
  refine lv_aload_n hx hb dX7_putFour_23 rfl (lv_at hl 1 rfl) ?_
  refine va_get (D := D) (ci := 7) (v := .int 12) (C := RX7) (T := TX7) (N := 12) hx hb hts inX7 hown hK hP 0 rfl rfl 2 (by decide) (hts _ tw_89) (fun _ h9 => h9) rfl dX7_putFour_24 ?_
  refine lv_iload_n hx hb dX7_putFour_27 rfl (lv_at hl 2 rfl) ?_
  refine lv_iload_n hx hb dX7_putFour_28 rfl (lv_at hl 0 rfl) ?_
  obtain ⟨v_1, ev_1⟩ : ∃ y : Int32, ((Int32.toUInt32 v >>> (Int32.toUInt32 24 &&& Int32.toUInt32 31)).toInt32 : Int32) = y := ⟨_, rfl⟩
  refine lv_iushr (v := v_1) hx hb dX7_putFour_29 ev_1 ?_
  obtain ⟨v_2, ev_2⟩ : ∃ y : Int32, (v_1).toInt8.toInt32 = y := ⟨_, rfl⟩
  refine lv_i2b (v := v_2) hx hb dX7_putFour_30 ev_2 ?_
  refine va_bast hx hb hK hP hD hS 1 0 rfl rfl (vp_in_nI (n := 12) (N := 940) (by decide) (by decide)) dX7_putFour_31 (fun H locs hP hD hS => ?_)
  obtain ⟨g_3, eg_3⟩ : ∃ g, g = upd f (Int32.toNatClampNeg 12) (vp_nar .byte v_2) := ⟨_, rfl⟩
  have hP : va_P D classes [(tp, .inr (7, [.ref t1, .ref t2, .int 12, .int sp, .int tl, .int bg, .int af, .int kd, .long nm, .int nb, .int ft, .int pl])), (t1, .inl (cy 0, 940, .inl g_3))] H := by rw [eg_3]; exact hP
  have hD : va_D A [(tp, .inr (7, [.ref t1, .ref t2, .int 12, .int sp, .int tl, .int bg, .int af, .int kd, .long nm, .int nb, .int ft, .int pl])), (t1, .inl (cy 0, 940, .inl g_3))] := by rw [eg_3]; exact hD
  refine lv_aload_n hx hb dX7_putFour_32 rfl (lv_at hl 1 rfl) ?_
  refine lv_dup hx hb dX7_putFour_33 rfl ?_
  refine va_get (D := D) (ci := 7) (v := .int 12) (C := RX7) (T := TX7) (N := 12) hx hb hts inX7 hown hK hP 0 rfl rfl 2 (by decide) (hts _ tw_89) (fun _ h9 => h9) rfl dX7_putFour_34 ?_
  refine lv_iconst (v := 1) hx hb dX7_putFour_37 (by decide) ?_
  refine lv_iadd hx hb dX7_putFour_38 ?_
  refine tI (y := 13) (by decide) ?_
  refine va_put (D := D) (ci := 7) (v := .int 13) (ty := .int) (C := RX7) (T := TX7) (N := 12) hx hb hts inX7 tyX7 tyX7_ok nmX7 hown hK hP hD hS 0 rfl rfl 2 (by decide) (hts _ tw_89) (fun _ h9 => h9) rfl (by decide +kernel) rfl rfl (Nat.le_of_ble_eq_true rfl) dX7_putFour_39 (fun H locs hP hD hS => ?_)
  have hP : va_P D classes [(tp, .inr (7, [.ref t1, .ref t2, .int 13, .int sp, .int tl, .int bg, .int af, .int kd, .long nm, .int nb, .int ft, .int pl])), (t1, .inl (cy 0, 940, .inl g_3))] H := hP
  have hD : va_D A [(tp, .inr (7, [.ref t1, .ref t2, .int 13, .int sp, .int tl, .int bg, .int af, .int kd, .long nm, .int nb, .int ft, .int pl])), (t1, .inl (cy 0, 940, .inl g_3))] := hD
  refine lv_iinc (v := 16) (lv' := [(2, .int 16), (0, .ref tp), (1, .int v)]) hx hb dX7_putFour_42 hl (k := 0) rfl (by decide) (by decide) rfl (fun ls hl => ?_)
  refine lv_goto (tgt := 3) hx hb dX7_putFour_45 (by decide) ?_
  refine lv_iload_n hx hb dX7_putFour_3 rfl (lv_at hl 0 rfl) ?_
  refine lv_if_lt (tgt := 48) hx hb dX7_putFour_4 (by decide) (fun c9 => absurd c9 (by decide)) (fun _ => ?_)
  refine lv_aload_n hx hb dX7_putFour_7 rfl (lv_at hl 1 rfl) ?_
  refine va_get (D := D) (ci := 7) (v := .int 13) (C := RX7) (T := TX7) (N := 12) hx hb hts inX7 hown hK hP 0 rfl rfl 2 (by decide) (hts _ tw_89) (fun _ h9 => h9) rfl dX7_putFour_8 ?_
  refine lv_aload_n hx hb dX7_putFour_11 rfl (lv_at hl 1 rfl) ?_
  refine va_get (D := D) (ci := 7) (v := .ref t1) (C := RX7) (T := TX7) (N := 12) hx hb hts inX7 hown hK hP 0 rfl rfl 0 (by decide) (hts _ tw_87) (fun _ h9 => h9) rfl dX7_putFour_12 ?_
  refine va_alen (v := 940) hx hb hK hP 1 0 rfl rfl rfl dX7_putFour_15 ?_
  refine lv_icmp_ge (tgt := 48) hx hb dX7_putFour_16 (by decide) (fun c9 => absurd c9 (by decide)) (fun _ => ?_)
  refine lv_aload_n hx hb dX7_putFour_19 rfl (lv_at hl 1 rfl) ?_
  refine va_get (D := D) (ci := 7) (v := .ref t1) (C := RX7) (T := TX7) (N := 12) hx hb hts inX7 hown hK hP 0 rfl rfl 0 (by decide) (hts _ tw_87) (fun _ h9 => h9) rfl dX7_putFour_20 ?_
  refine lv_aload_n hx hb dX7_putFour_23 rfl (lv_at hl 1 rfl) ?_
  refine va_get (D := D) (ci := 7) (v := .int 13) (C := RX7) (T := TX7) (N := 12) hx hb hts inX7 hown hK hP 0 rfl rfl 2 (by decide) (hts _ tw_89) (fun _ h9 => h9) rfl dX7_putFour_24 ?_
  refine lv_iload_n hx hb dX7_putFour_27 rfl (lv_at hl 2 rfl) ?_
  refine lv_iload_n hx hb dX7_putFour_28 rfl (lv_at hl 0 rfl) ?_
  obtain ⟨v_4, ev_4⟩ : ∃ y : Int32, ((Int32.toUInt32 v >>> (Int32.toUInt32 16 &&& Int32.toUInt32 31)).toInt32 : Int32) = y := ⟨_, rfl⟩
  refine lv_iushr (v := v_4) hx hb dX7_putFour_29 ev_4 ?_
  obtain ⟨v_5, ev_5⟩ : ∃ y : Int32, (v_4).toInt8.toInt32 = y := ⟨_, rfl⟩
  refine lv_i2b (v := v_5) hx hb dX7_putFour_30 ev_5 ?_
  refine va_bast hx hb hK hP hD hS 1 0 rfl rfl (vp_in_nI (n := 13) (N := 940) (by decide) (by decide)) dX7_putFour_31 (fun H locs hP hD hS => ?_)
  obtain ⟨g_6, eg_6⟩ : ∃ g, g = upd g_3 (Int32.toNatClampNeg 13) (vp_nar .byte v_5) := ⟨_, rfl⟩
  have hP : va_P D classes [(tp, .inr (7, [.ref t1, .ref t2, .int 13, .int sp, .int tl, .int bg, .int af, .int kd, .long nm, .int nb, .int ft, .int pl])), (t1, .inl (cy 0, 940, .inl g_6))] H := by rw [eg_6]; exact hP
  have hD : va_D A [(tp, .inr (7, [.ref t1, .ref t2, .int 13, .int sp, .int tl, .int bg, .int af, .int kd, .long nm, .int nb, .int ft, .int pl])), (t1, .inl (cy 0, 940, .inl g_6))] := by rw [eg_6]; exact hD
  refine lv_aload_n hx hb dX7_putFour_32 rfl (lv_at hl 1 rfl) ?_
  refine lv_dup hx hb dX7_putFour_33 rfl ?_
  refine va_get (D := D) (ci := 7) (v := .int 13) (C := RX7) (T := TX7) (N := 12) hx hb hts inX7 hown hK hP 0 rfl rfl 2 (by decide) (hts _ tw_89) (fun _ h9 => h9) rfl dX7_putFour_34 ?_
  refine lv_iconst (v := 1) hx hb dX7_putFour_37 (by decide) ?_
  refine lv_iadd hx hb dX7_putFour_38 ?_
  refine tI (y := 14) (by decide) ?_
  refine va_put (D := D) (ci := 7) (v := .int 14) (ty := .int) (C := RX7) (T := TX7) (N := 12) hx hb hts inX7 tyX7 tyX7_ok nmX7 hown hK hP hD hS 0 rfl rfl 2 (by decide) (hts _ tw_89) (fun _ h9 => h9) rfl (by decide +kernel) rfl rfl (Nat.le_of_ble_eq_true rfl) dX7_putFour_39 (fun H locs hP hD hS => ?_)
  have hP : va_P D classes [(tp, .inr (7, [.ref t1, .ref t2, .int 14, .int sp, .int tl, .int bg, .int af, .int kd, .long nm, .int nb, .int ft, .int pl])), (t1, .inl (cy 0, 940, .inl g_6))] H := hP
  have hD : va_D A [(tp, .inr (7, [.ref t1, .ref t2, .int 14, .int sp, .int tl, .int bg, .int af, .int kd, .long nm, .int nb, .int ft, .int pl])), (t1, .inl (cy 0, 940, .inl g_6))] := hD
  refine lv_iinc (v := 8) (lv' := [(2, .int 8), (0, .ref tp), (1, .int v)]) hx hb dX7_putFour_42 hl (k := 0) rfl (by decide) (by decide) rfl (fun ls hl => ?_)
  refine lv_goto (tgt := 3) hx hb dX7_putFour_45 (by decide) ?_
  refine lv_iload_n hx hb dX7_putFour_3 rfl (lv_at hl 0 rfl) ?_
  refine lv_if_lt (tgt := 48) hx hb dX7_putFour_4 (by decide) (fun c9 => absurd c9 (by decide)) (fun _ => ?_)
  refine lv_aload_n hx hb dX7_putFour_7 rfl (lv_at hl 1 rfl) ?_
  refine va_get (D := D) (ci := 7) (v := .int 14) (C := RX7) (T := TX7) (N := 12) hx hb hts inX7 hown hK hP 0 rfl rfl 2 (by decide) (hts _ tw_89) (fun _ h9 => h9) rfl dX7_putFour_8 ?_
  refine lv_aload_n hx hb dX7_putFour_11 rfl (lv_at hl 1 rfl) ?_
  refine va_get (D := D) (ci := 7) (v := .ref t1) (C := RX7) (T := TX7) (N := 12) hx hb hts inX7 hown hK hP 0 rfl rfl 0 (by decide) (hts _ tw_87) (fun _ h9 => h9) rfl dX7_putFour_12 ?_
  refine va_alen (v := 940) hx hb hK hP 1 0 rfl rfl rfl dX7_putFour_15 ?_
  refine lv_icmp_ge (tgt := 48) hx hb dX7_putFour_16 (by decide) (fun c9 => absurd c9 (by decide)) (fun _ => ?_)
  refine lv_aload_n hx hb dX7_putFour_19 rfl (lv_at hl 1 rfl) ?_
  refine va_get (D := D) (ci := 7) (v := .ref t1) (C := RX7) (T := TX7) (N := 12) hx hb hts inX7 hown hK hP 0 rfl rfl 0 (by decide) (hts _ tw_87) (fun _ h9 => h9) rfl dX7_putFour_20 ?_
  refine lv_aload_n hx hb dX7_putFour_23 rfl (lv_at hl 1 rfl) ?_
  refine va_get (D := D) (ci := 7) (v := .int 14) (C := RX7) (T := TX7) (N := 12) hx hb hts inX7 hown hK hP 0 rfl rfl 2 (by decide) (hts _ tw_89) (fun _ h9 => h9) rfl dX7_putFour_24 ?_
  refine lv_iload_n hx hb dX7_putFour_27 rfl (lv_at hl 2 rfl) ?_
  refine lv_iload_n hx hb dX7_putFour_28 rfl (lv_at hl 0 rfl) ?_
  obtain ⟨v_7, ev_7⟩ : ∃ y : Int32, ((Int32.toUInt32 v >>> (Int32.toUInt32 8 &&& Int32.toUInt32 31)).toInt32 : Int32) = y := ⟨_, rfl⟩
  refine lv_iushr (v := v_7) hx hb dX7_putFour_29 ev_7 ?_
  obtain ⟨v_8, ev_8⟩ : ∃ y : Int32, (v_7).toInt8.toInt32 = y := ⟨_, rfl⟩
  refine lv_i2b (v := v_8) hx hb dX7_putFour_30 ev_8 ?_
  refine va_bast hx hb hK hP hD hS 1 0 rfl rfl (vp_in_nI (n := 14) (N := 940) (by decide) (by decide)) dX7_putFour_31 (fun H locs hP hD hS => ?_)
  obtain ⟨g_9, eg_9⟩ : ∃ g, g = upd g_6 (Int32.toNatClampNeg 14) (vp_nar .byte v_8) := ⟨_, rfl⟩
  have hP : va_P D classes [(tp, .inr (7, [.ref t1, .ref t2, .int 14, .int sp, .int tl, .int bg, .int af, .int kd, .long nm, .int nb, .int ft, .int pl])), (t1, .inl (cy 0, 940, .inl g_9))] H := by rw [eg_9]; exact hP
  have hD : va_D A [(tp, .inr (7, [.ref t1, .ref t2, .int 14, .int sp, .int tl, .int bg, .int af, .int kd, .long nm, .int nb, .int ft, .int pl])), (t1, .inl (cy 0, 940, .inl g_9))] := by rw [eg_9]; exact hD
  refine lv_aload_n hx hb dX7_putFour_32 rfl (lv_at hl 1 rfl) ?_
  refine lv_dup hx hb dX7_putFour_33 rfl ?_
  refine va_get (D := D) (ci := 7) (v := .int 14) (C := RX7) (T := TX7) (N := 12) hx hb hts inX7 hown hK hP 0 rfl rfl 2 (by decide) (hts _ tw_89) (fun _ h9 => h9) rfl dX7_putFour_34 ?_
  refine lv_iconst (v := 1) hx hb dX7_putFour_37 (by decide) ?_
  refine lv_iadd hx hb dX7_putFour_38 ?_
  refine tI (y := 15) (by decide) ?_
  refine va_put (D := D) (ci := 7) (v := .int 15) (ty := .int) (C := RX7) (T := TX7) (N := 12) hx hb hts inX7 tyX7 tyX7_ok nmX7 hown hK hP hD hS 0 rfl rfl 2 (by decide) (hts _ tw_89) (fun _ h9 => h9) rfl (by decide +kernel) rfl rfl (Nat.le_of_ble_eq_true rfl) dX7_putFour_39 (fun H locs hP hD hS => ?_)
  have hP : va_P D classes [(tp, .inr (7, [.ref t1, .ref t2, .int 15, .int sp, .int tl, .int bg, .int af, .int kd, .long nm, .int nb, .int ft, .int pl])), (t1, .inl (cy 0, 940, .inl g_9))] H := hP
  have hD : va_D A [(tp, .inr (7, [.ref t1, .ref t2, .int 15, .int sp, .int tl, .int bg, .int af, .int kd, .long nm, .int nb, .int ft, .int pl])), (t1, .inl (cy 0, 940, .inl g_9))] := hD
  refine lv_iinc (v := 0) (lv' := [(2, .int 0), (0, .ref tp), (1, .int v)]) hx hb dX7_putFour_42 hl (k := 0) rfl (by decide) (by decide) rfl (fun ls hl => ?_)
  refine lv_goto (tgt := 3) hx hb dX7_putFour_45 (by decide) ?_
  refine lv_iload_n hx hb dX7_putFour_3 rfl (lv_at hl 0 rfl) ?_
  refine lv_if_lt (tgt := 48) hx hb dX7_putFour_4 (by decide) (fun c9 => absurd c9 (by decide)) (fun _ => ?_)
  refine lv_aload_n hx hb dX7_putFour_7 rfl (lv_at hl 1 rfl) ?_
  refine va_get (D := D) (ci := 7) (v := .int 15) (C := RX7) (T := TX7) (N := 12) hx hb hts inX7 hown hK hP 0 rfl rfl 2 (by decide) (hts _ tw_89) (fun _ h9 => h9) rfl dX7_putFour_8 ?_
  refine lv_aload_n hx hb dX7_putFour_11 rfl (lv_at hl 1 rfl) ?_
  refine va_get (D := D) (ci := 7) (v := .ref t1) (C := RX7) (T := TX7) (N := 12) hx hb hts inX7 hown hK hP 0 rfl rfl 0 (by decide) (hts _ tw_87) (fun _ h9 => h9) rfl dX7_putFour_12 ?_
  refine va_alen (v := 940) hx hb hK hP 1 0 rfl rfl rfl dX7_putFour_15 ?_
  refine lv_icmp_ge (tgt := 48) hx hb dX7_putFour_16 (by decide) (fun c9 => absurd c9 (by decide)) (fun _ => ?_)
  refine lv_aload_n hx hb dX7_putFour_19 rfl (lv_at hl 1 rfl) ?_
  refine va_get (D := D) (ci := 7) (v := .ref t1) (C := RX7) (T := TX7) (N := 12) hx hb hts inX7 hown hK hP 0 rfl rfl 0 (by decide) (hts _ tw_87) (fun _ h9 => h9) rfl dX7_putFour_20 ?_
  refine lv_aload_n hx hb dX7_putFour_23 rfl (lv_at hl 1 rfl) ?_
  refine va_get (D := D) (ci := 7) (v := .int 15) (C := RX7) (T := TX7) (N := 12) hx hb hts inX7 hown hK hP 0 rfl rfl 2 (by decide) (hts _ tw_89) (fun _ h9 => h9) rfl dX7_putFour_24 ?_
  refine lv_iload_n hx hb dX7_putFour_27 rfl (lv_at hl 2 rfl) ?_
  refine lv_iload_n hx hb dX7_putFour_28 rfl (lv_at hl 0 rfl) ?_
  obtain ⟨v_10, ev_10⟩ : ∃ y : Int32, ((Int32.toUInt32 v >>> (Int32.toUInt32 0 &&& Int32.toUInt32 31)).toInt32 : Int32) = y := ⟨_, rfl⟩
  refine lv_iushr (v := v_10) hx hb dX7_putFour_29 ev_10 ?_
  obtain ⟨v_11, ev_11⟩ : ∃ y : Int32, (v_10).toInt8.toInt32 = y := ⟨_, rfl⟩
  refine lv_i2b (v := v_11) hx hb dX7_putFour_30 ev_11 ?_
  refine va_bast hx hb hK hP hD hS 1 0 rfl rfl (vp_in_nI (n := 15) (N := 940) (by decide) (by decide)) dX7_putFour_31 (fun H locs hP hD hS => ?_)
  obtain ⟨g_12, eg_12⟩ : ∃ g, g = upd g_9 (Int32.toNatClampNeg 15) (vp_nar .byte v_11) := ⟨_, rfl⟩
  have hP : va_P D classes [(tp, .inr (7, [.ref t1, .ref t2, .int 15, .int sp, .int tl, .int bg, .int af, .int kd, .long nm, .int nb, .int ft, .int pl])), (t1, .inl (cy 0, 940, .inl g_12))] H := by rw [eg_12]; exact hP
  have hD : va_D A [(tp, .inr (7, [.ref t1, .ref t2, .int 15, .int sp, .int tl, .int bg, .int af, .int kd, .long nm, .int nb, .int ft, .int pl])), (t1, .inl (cy 0, 940, .inl g_12))] := by rw [eg_12]; exact hD
  refine lv_aload_n hx hb dX7_putFour_32 rfl (lv_at hl 1 rfl) ?_
  refine lv_dup hx hb dX7_putFour_33 rfl ?_
  refine va_get (D := D) (ci := 7) (v := .int 15) (C := RX7) (T := TX7) (N := 12) hx hb hts inX7 hown hK hP 0 rfl rfl 2 (by decide) (hts _ tw_89) (fun _ h9 => h9) rfl dX7_putFour_34 ?_
  refine lv_iconst (v := 1) hx hb dX7_putFour_37 (by decide) ?_
  refine lv_iadd hx hb dX7_putFour_38 ?_
  refine tI (y := 16) (by decide) ?_
  refine va_put (D := D) (ci := 7) (v := .int 16) (ty := .int) (C := RX7) (T := TX7) (N := 12) hx hb hts inX7 tyX7 tyX7_ok nmX7 hown hK hP hD hS 0 rfl rfl 2 (by decide) (hts _ tw_89) (fun _ h9 => h9) rfl (by decide +kernel) rfl rfl (Nat.le_of_ble_eq_true rfl) dX7_putFour_39 (fun H locs hP hD hS => ?_)
  have hP : va_P D classes [(tp, .inr (7, [.ref t1, .ref t2, .int 16, .int sp, .int tl, .int bg, .int af, .int kd, .long nm, .int nb, .int ft, .int pl])), (t1, .inl (cy 0, 940, .inl g_12))] H := hP
  have hD : va_D A [(tp, .inr (7, [.ref t1, .ref t2, .int 16, .int sp, .int tl, .int bg, .int af, .int kd, .long nm, .int nb, .int ft, .int pl])), (t1, .inl (cy 0, 940, .inl g_12))] := hD
  refine lv_iinc (v := (-8)) (lv' := [(2, .int (-8)), (0, .ref tp), (1, .int v)]) hx hb dX7_putFour_42 hl (k := 0) rfl (by decide) (by decide) rfl (fun ls hl => ?_)
  refine lv_goto (tgt := 3) hx hb dX7_putFour_45 (by decide) ?_
  refine lv_iload_n hx hb dX7_putFour_3 rfl (lv_at hl 0 rfl) ?_
  refine lv_if_lt (tgt := 48) hx hb dX7_putFour_4 (by decide) (fun _ => ?_) (fun c9 => absurd (by decide) c9)
  have hP9 : va_P D classes [(tp, .inr (7, [.ref t1, .ref t2, .int 16, .int sp, .int tl, .int bg, .int af, .int kd, .long nm, .int nb, .int ft, .int pl])), (t1, .inl (cy 0, 940, .inl g_12))] H := subP hP [0, 1] rfl
  have hD9 : va_D A [(tp, .inr (7, [.ref t1, .ref t2, .int 16, .int sp, .int tl, .int bg, .int af, .int kd, .long nm, .int nb, .int ft, .int pl])), (t1, .inl (cy 0, 940, .inl g_12))] := hD.sub [0, 1] (by decide) rfl
  exact W.vret hx hb hr (fun t ht hW => ⟨⟨((g_12)), rfl, trivial, by rw [ht]; exact hP9, va_K.moved hW.alike hK, hD9⟩, hS.F ht⟩) hS.2.2 dX7_putFour_48
set_option maxHeartbeats 4000000 in
set_option maxRecDepth 100000 in
theorem c_T_putFour16 (l : Launch) (D : va_G) (cy : Nat → ClassId) (z : Nat → Nat) (sz : Nat) (tp : Nat) (t1 : Nat) (t2 : Nat) (sp : Int32) (tl : Int32) (bg : Int32) (af : Int32) (kd : Int32) (nm : Int64) (nb : Int32) (ft : Int32) (pl : Int32) (f : Nat → Int32) (v : Int32) : Met l yX7_putFour (Cond.code yX7_putFour cX7_putFour 3 none :: gT) ({ frames := 0, cells := 0, slots := 0, locals := 200 } : Room) (va_Pc [.ref tp, .int v] (PRE D cy z [(tp, .inr (7, [.ref t1, .ref t2, .int 16, .int sp, .int tl, .int bg, .int af, .int kd, .long nm, .int nb, .int ft, .int pl])), (t1, .inl (cy 0, 940, .inl f))] sz)) (va_Qv (fun (u : (Nat → Int32)) => True) (BB D cy (va_A [(tp, .inr (7, [.ref t1, .ref t2, .int 16, .int sp, .int tl, .int bg, .int af, .int kd, .long nm, .int nb, .int ft, .int pl])), (t1, .inl (cy 0, 940, .inl f))] sz) (fun (u : (Nat → Int32)) => [(tp, .inr (7, [.ref t1, .ref t2, .int 20, .int sp, .int tl, .int bg, .int af, .int kd, .long nm, .int nb, .int ft, .int pl])), (t1, .inl (cy 0, 940, .inl u))])) (va_A [(tp, .inr (7, [.ref t1, .ref t2, .int 16, .int sp, .int tl, .int bg, .int af, .int kd, .long nm, .int nb, .int ft, .int pl])), (t1, .inl (cy 0, 940, .inl f))] sz)) 0 0 (va_A [(tp, .inr (7, [.ref t1, .ref t2, .int 16, .int sp, .int tl, .int bg, .int af, .int kd, .long nm, .int nb, .int ft, .int pl])), (t1, .inl (cy 0, 940, .inl f))] sz) := by
  refine Met.ofW (cc := cX7_putFour) (maxL := 3) (ret := none) (by decide) rfl ?_
  intro p e s m args below meth c s₁ B hml hv
  obtain ⟨rfl, hsz, hP, hK, hD0, hSD⟩ := hv
  have hx := B.exec
  have hb := B.bytes
  have hr := B.returns
  have hlocks := B.notSynchronized
  have hts : ∀ w ∈ gT, w.before _ s = true := fun w h => atoms_spec (ws := Cond.code yX7_putFour cX7_putFour 3 none :: gT) B.pre w (List.mem_cons_of_mem _ h)
  have hown : s.vm.findClass RX7 = some m.cls := findClass_of_methodNamed B.named
  subst hsz
  have hD := hD0.self (sz := s.heap.size)
  generalize hAe : va_A [(tp, .inr (7, [.ref t1, .ref t2, .int 16, .int sp, .int tl, .int bg, .int af, .int kd, .long nm, .int nb, .int ft, .int pl])), (t1, .inl (cy 0, 940, .inl f))] s.heap.size = A at hD hSD ⊢
  have hA : ∀ q : Nat, s.heap.size ≤ q → A q := fun q h => by rw [← hAe]; exact Or.inr h
  have hS : va_S A s.heap s.heap [] := va_S.rf
  have hl := lv_entry ([.ref tp, .int v]) (n := 3) (Nat.le_of_ble_eq_true rfl)
  rw [lg_entry_eq]
  generalize (lg_sl ([.ref tp, .int v]) ++ List.replicate (3 - (lg_sl ([.ref tp, .int v])).length) Slot.unset).toArray = ls at hl ⊢
  have hl : lv_has ls 3 [(0, .ref tp), (1, .int v)] := hl
  refine lv_bipush (v := 24) hx hb dX7_putFour_0 (by decide) ?_
  refine lv_istore_n (lv' := [(2, .int 24), (0, .ref tp), (1, .int v)]) hx hb dX7_putFour_2 rfl hl (by decide) rfl (fun ls hl => ?_)
  refine lv_iload_n hx hb dX7_putFour_3 rfl (lv_at hl 0 rfl) ?_
  refine lv_if_lt (tgt := 48) hx hb dX7_putFour_4 (by decide) (fun c9 => absurd c9 (by decide)) (fun _ => ?_)
  refine lv_aload_n hx hb dX7_putFour_7 rfl (lv_at hl 1 rfl) ?_
  refine va_get (D := D) (ci := 7) (v := .int 16) (C := RX7) (T := TX7) (N := 12) hx hb hts inX7 hown hK hP 0 rfl rfl 2 (by decide) (hts _ tw_89) (fun _ h9 => h9) rfl dX7_putFour_8 ?_
  refine lv_aload_n hx hb dX7_putFour_11 rfl (lv_at hl 1 rfl) ?_
  refine va_get (D := D) (ci := 7) (v := .ref t1) (C := RX7) (T := TX7) (N := 12) hx hb hts inX7 hown hK hP 0 rfl rfl 0 (by decide) (hts _ tw_87) (fun _ h9 => h9) rfl dX7_putFour_12 ?_
  refine va_alen (v := 940) hx hb hK hP 1 0 rfl rfl rfl dX7_putFour_15 ?_
  refine lv_icmp_ge (tgt := 48) hx hb dX7_putFour_16 (by decide) (fun c9 => absurd c9 (by decide)) (fun _ => ?_)
  refine lv_aload_n hx hb dX7_putFour_19 rfl (lv_at hl 1 rfl) ?_
  refine va_get (D := D) (ci := 7) (v := .ref t1) (C := RX7) (T := TX7) (N := 12) hx hb hts inX7 hown hK hP 0 rfl rfl 0 (by decide) (hts _ tw_87) (fun _ h9 => h9) rfl dX7_putFour_20 ?_
  refine lv_aload_n hx hb dX7_putFour_23 rfl (lv_at hl 1 rfl) ?_
  refine va_get (D := D) (ci := 7) (v := .int 16) (C := RX7) (T := TX7) (N := 12) hx hb hts inX7 hown hK hP 0 rfl rfl 2 (by decide) (hts _ tw_89) (fun _ h9 => h9) rfl dX7_putFour_24 ?_
  refine lv_iload_n hx hb dX7_putFour_27 rfl (lv_at hl 2 rfl) ?_
  refine lv_iload_n hx hb dX7_putFour_28 rfl (lv_at hl 0 rfl) ?_
  obtain ⟨v_1, ev_1⟩ : ∃ y : Int32, ((Int32.toUInt32 v >>> (Int32.toUInt32 24 &&& Int32.toUInt32 31)).toInt32 : Int32) = y := ⟨_, rfl⟩
  refine lv_iushr (v := v_1) hx hb dX7_putFour_29 ev_1 ?_
  obtain ⟨v_2, ev_2⟩ : ∃ y : Int32, (v_1).toInt8.toInt32 = y := ⟨_, rfl⟩
  refine lv_i2b (v := v_2) hx hb dX7_putFour_30 ev_2 ?_
  refine va_bast hx hb hK hP hD hS 1 0 rfl rfl (vp_in_nI (n := 16) (N := 940) (by decide) (by decide)) dX7_putFour_31 (fun H locs hP hD hS => ?_)
  obtain ⟨g_3, eg_3⟩ : ∃ g, g = upd f (Int32.toNatClampNeg 16) (vp_nar .byte v_2) := ⟨_, rfl⟩
  have hP : va_P D classes [(tp, .inr (7, [.ref t1, .ref t2, .int 16, .int sp, .int tl, .int bg, .int af, .int kd, .long nm, .int nb, .int ft, .int pl])), (t1, .inl (cy 0, 940, .inl g_3))] H := by rw [eg_3]; exact hP
  have hD : va_D A [(tp, .inr (7, [.ref t1, .ref t2, .int 16, .int sp, .int tl, .int bg, .int af, .int kd, .long nm, .int nb, .int ft, .int pl])), (t1, .inl (cy 0, 940, .inl g_3))] := by rw [eg_3]; exact hD
  refine lv_aload_n hx hb dX7_putFour_32 rfl (lv_at hl 1 rfl) ?_
  refine lv_dup hx hb dX7_putFour_33 rfl ?_
  refine va_get (D := D) (ci := 7) (v := .int 16) (C := RX7) (T := TX7) (N := 12) hx hb hts inX7 hown hK hP 0 rfl rfl 2 (by decide) (hts _ tw_89) (fun _ h9 => h9) rfl dX7_putFour_34 ?_
  refine lv_iconst (v := 1) hx hb dX7_putFour_37 (by decide) ?_
  refine lv_iadd hx hb dX7_putFour_38 ?_
  refine tI (y := 17) (by decide) ?_
  refine va_put (D := D) (ci := 7) (v := .int 17) (ty := .int) (C := RX7) (T := TX7) (N := 12) hx hb hts inX7 tyX7 tyX7_ok nmX7 hown hK hP hD hS 0 rfl rfl 2 (by decide) (hts _ tw_89) (fun _ h9 => h9) rfl (by decide +kernel) rfl rfl (Nat.le_of_ble_eq_true rfl) dX7_putFour_39 (fun H locs hP hD hS => ?_)
  have hP : va_P D classes [(tp, .inr (7, [.ref t1, .ref t2, .int 17, .int sp, .int tl, .int bg, .int af, .int kd, .long nm, .int nb, .int ft, .int pl])), (t1, .inl (cy 0, 940, .inl g_3))] H := hP
  have hD : va_D A [(tp, .inr (7, [.ref t1, .ref t2, .int 17, .int sp, .int tl, .int bg, .int af, .int kd, .long nm, .int nb, .int ft, .int pl])), (t1, .inl (cy 0, 940, .inl g_3))] := hD
  refine lv_iinc (v := 16) (lv' := [(2, .int 16), (0, .ref tp), (1, .int v)]) hx hb dX7_putFour_42 hl (k := 0) rfl (by decide) (by decide) rfl (fun ls hl => ?_)
  refine lv_goto (tgt := 3) hx hb dX7_putFour_45 (by decide) ?_
  refine lv_iload_n hx hb dX7_putFour_3 rfl (lv_at hl 0 rfl) ?_
  refine lv_if_lt (tgt := 48) hx hb dX7_putFour_4 (by decide) (fun c9 => absurd c9 (by decide)) (fun _ => ?_)
  refine lv_aload_n hx hb dX7_putFour_7 rfl (lv_at hl 1 rfl) ?_
  refine va_get (D := D) (ci := 7) (v := .int 17) (C := RX7) (T := TX7) (N := 12) hx hb hts inX7 hown hK hP 0 rfl rfl 2 (by decide) (hts _ tw_89) (fun _ h9 => h9) rfl dX7_putFour_8 ?_
  refine lv_aload_n hx hb dX7_putFour_11 rfl (lv_at hl 1 rfl) ?_
  refine va_get (D := D) (ci := 7) (v := .ref t1) (C := RX7) (T := TX7) (N := 12) hx hb hts inX7 hown hK hP 0 rfl rfl 0 (by decide) (hts _ tw_87) (fun _ h9 => h9) rfl dX7_putFour_12 ?_
  refine va_alen (v := 940) hx hb hK hP 1 0 rfl rfl rfl dX7_putFour_15 ?_
  refine lv_icmp_ge (tgt := 48) hx hb dX7_putFour_16 (by decide) (fun c9 => absurd c9 (by decide)) (fun _ => ?_)
  refine lv_aload_n hx hb dX7_putFour_19 rfl (lv_at hl 1 rfl) ?_
  refine va_get (D := D) (ci := 7) (v := .ref t1) (C := RX7) (T := TX7) (N := 12) hx hb hts inX7 hown hK hP 0 rfl rfl 0 (by decide) (hts _ tw_87) (fun _ h9 => h9) rfl dX7_putFour_20 ?_
  refine lv_aload_n hx hb dX7_putFour_23 rfl (lv_at hl 1 rfl) ?_
  refine va_get (D := D) (ci := 7) (v := .int 17) (C := RX7) (T := TX7) (N := 12) hx hb hts inX7 hown hK hP 0 rfl rfl 2 (by decide) (hts _ tw_89) (fun _ h9 => h9) rfl dX7_putFour_24 ?_
  refine lv_iload_n hx hb dX7_putFour_27 rfl (lv_at hl 2 rfl) ?_
  refine lv_iload_n hx hb dX7_putFour_28 rfl (lv_at hl 0 rfl) ?_
  obtain ⟨v_4, ev_4⟩ : ∃ y : Int32, ((Int32.toUInt32 v >>> (Int32.toUInt32 16 &&& Int32.toUInt32 31)).toInt32 : Int32) = y := ⟨_, rfl⟩
  refine lv_iushr (v := v_4) hx hb dX7_putFour_29 ev_4 ?_
  obtain ⟨v_5, ev_5⟩ : ∃ y : Int32, (v_4).toInt8.toInt32 = y := ⟨_, rfl⟩
  refine lv_i2b (v := v_5) hx hb dX7_putFour_30 ev_5 ?_
  refine va_bast hx hb hK hP hD hS 1 0 rfl rfl (vp_in_nI (n := 17) (N := 940) (by decide) (by decide)) dX7_putFour_31 (fun H locs hP hD hS => ?_)
  obtain ⟨g_6, eg_6⟩ : ∃ g, g = upd g_3 (Int32.toNatClampNeg 17) (vp_nar .byte v_5) := ⟨_, rfl⟩
  have hP : va_P D classes [(tp, .inr (7, [.ref t1, .ref t2, .int 17, .int sp, .int tl, .int bg, .int af, .int kd, .long nm, .int nb, .int ft, .int pl])), (t1, .inl (cy 0, 940, .inl g_6))] H := by rw [eg_6]; exact hP
  have hD : va_D A [(tp, .inr (7, [.ref t1, .ref t2, .int 17, .int sp, .int tl, .int bg, .int af, .int kd, .long nm, .int nb, .int ft, .int pl])), (t1, .inl (cy 0, 940, .inl g_6))] := by rw [eg_6]; exact hD
  refine lv_aload_n hx hb dX7_putFour_32 rfl (lv_at hl 1 rfl) ?_
  refine lv_dup hx hb dX7_putFour_33 rfl ?_
  refine va_get (D := D) (ci := 7) (v := .int 17) (C := RX7) (T := TX7) (N := 12) hx hb hts inX7 hown hK hP 0 rfl rfl 2 (by decide) (hts _ tw_89) (fun _ h9 => h9) rfl dX7_putFour_34 ?_
  refine lv_iconst (v := 1) hx hb dX7_putFour_37 (by decide) ?_
  refine lv_iadd hx hb dX7_putFour_38 ?_
  refine tI (y := 18) (by decide) ?_
  refine va_put (D := D) (ci := 7) (v := .int 18) (ty := .int) (C := RX7) (T := TX7) (N := 12) hx hb hts inX7 tyX7 tyX7_ok nmX7 hown hK hP hD hS 0 rfl rfl 2 (by decide) (hts _ tw_89) (fun _ h9 => h9) rfl (by decide +kernel) rfl rfl (Nat.le_of_ble_eq_true rfl) dX7_putFour_39 (fun H locs hP hD hS => ?_)
  have hP : va_P D classes [(tp, .inr (7, [.ref t1, .ref t2, .int 18, .int sp, .int tl, .int bg, .int af, .int kd, .long nm, .int nb, .int ft, .int pl])), (t1, .inl (cy 0, 940, .inl g_6))] H := hP
  have hD : va_D A [(tp, .inr (7, [.ref t1, .ref t2, .int 18, .int sp, .int tl, .int bg, .int af, .int kd, .long nm, .int nb, .int ft, .int pl])), (t1, .inl (cy 0, 940, .inl g_6))] := hD
  refine lv_iinc (v := 8) (lv' := [(2, .int 8), (0, .ref tp), (1, .int v)]) hx hb dX7_putFour_42 hl (k := 0) rfl (by decide) (by decide) rfl (fun ls hl => ?_)
  refine lv_goto (tgt := 3) hx hb dX7_putFour_45 (by decide) ?_
  refine lv_iload_n hx hb dX7_putFour_3 rfl (lv_at hl 0 rfl) ?_
  refine lv_if_lt (tgt := 48) hx hb dX7_putFour_4 (by decide) (fun c9 => absurd c9 (by decide)) (fun _ => ?_)
  refine lv_aload_n hx hb dX7_putFour_7 rfl (lv_at hl 1 rfl) ?_
  refine va_get (D := D) (ci := 7) (v := .int 18) (C := RX7) (T := TX7) (N := 12) hx hb hts inX7 hown hK hP 0 rfl rfl 2 (by decide) (hts _ tw_89) (fun _ h9 => h9) rfl dX7_putFour_8 ?_
  refine lv_aload_n hx hb dX7_putFour_11 rfl (lv_at hl 1 rfl) ?_
  refine va_get (D := D) (ci := 7) (v := .ref t1) (C := RX7) (T := TX7) (N := 12) hx hb hts inX7 hown hK hP 0 rfl rfl 0 (by decide) (hts _ tw_87) (fun _ h9 => h9) rfl dX7_putFour_12 ?_
  refine va_alen (v := 940) hx hb hK hP 1 0 rfl rfl rfl dX7_putFour_15 ?_
  refine lv_icmp_ge (tgt := 48) hx hb dX7_putFour_16 (by decide) (fun c9 => absurd c9 (by decide)) (fun _ => ?_)
  refine lv_aload_n hx hb dX7_putFour_19 rfl (lv_at hl 1 rfl) ?_
  refine va_get (D := D) (ci := 7) (v := .ref t1) (C := RX7) (T := TX7) (N := 12) hx hb hts inX7 hown hK hP 0 rfl rfl 0 (by decide) (hts _ tw_87) (fun _ h9 => h9) rfl dX7_putFour_20 ?_
  refine lv_aload_n hx hb dX7_putFour_23 rfl (lv_at hl 1 rfl) ?_
  refine va_get (D := D) (ci := 7) (v := .int 18) (C := RX7) (T := TX7) (N := 12) hx hb hts inX7 hown hK hP 0 rfl rfl 2 (by decide) (hts _ tw_89) (fun _ h9 => h9) rfl dX7_putFour_24 ?_
  refine lv_iload_n hx hb dX7_putFour_27 rfl (lv_at hl 2 rfl) ?_
  refine lv_iload_n hx hb dX7_putFour_28 rfl (lv_at hl 0 rfl) ?_
  obtain ⟨v_7, ev_7⟩ : ∃ y : Int32, ((Int32.toUInt32 v >>> (Int32.toUInt32 8 &&& Int32.toUInt32 31)).toInt32 : Int32) = y := ⟨_, rfl⟩
  refine lv_iushr (v := v_7) hx hb dX7_putFour_29 ev_7 ?_
  obtain ⟨v_8, ev_8⟩ : ∃ y : Int32, (v_7).toInt8.toInt32 = y := ⟨_, rfl⟩
  refine lv_i2b (v := v_8) hx hb dX7_putFour_30 ev_8 ?_
  refine va_bast hx hb hK hP hD hS 1 0 rfl rfl (vp_in_nI (n := 18) (N := 940) (by decide) (by decide)) dX7_putFour_31 (fun H locs hP hD hS => ?_)
  obtain ⟨g_9, eg_9⟩ : ∃ g, g = upd g_6 (Int32.toNatClampNeg 18) (vp_nar .byte v_8) := ⟨_, rfl⟩
  have hP : va_P D classes [(tp, .inr (7, [.ref t1, .ref t2, .int 18, .int sp, .int tl, .int bg, .int af, .int kd, .long nm, .int nb, .int ft, .int pl])), (t1, .inl (cy 0, 940, .inl g_9))] H := by rw [eg_9]; exact hP
  have hD : va_D A [(tp, .inr (7, [.ref t1, .ref t2, .int 18, .int sp, .int tl, .int bg, .int af, .int kd, .long nm, .int nb, .int ft, .int pl])), (t1, .inl (cy 0, 940, .inl g_9))] := by rw [eg_9]; exact hD
  refine lv_aload_n hx hb dX7_putFour_32 rfl (lv_at hl 1 rfl) ?_
  refine lv_dup hx hb dX7_putFour_33 rfl ?_
  refine va_get (D := D) (ci := 7) (v := .int 18) (C := RX7) (T := TX7) (N := 12) hx hb hts inX7 hown hK hP 0 rfl rfl 2 (by decide) (hts _ tw_89) (fun _ h9 => h9) rfl dX7_putFour_34 ?_
  refine lv_iconst (v := 1) hx hb dX7_putFour_37 (by decide) ?_
  refine lv_iadd hx hb dX7_putFour_38 ?_
  refine tI (y := 19) (by decide) ?_
  refine va_put (D := D) (ci := 7) (v := .int 19) (ty := .int) (C := RX7) (T := TX7) (N := 12) hx hb hts inX7 tyX7 tyX7_ok nmX7 hown hK hP hD hS 0 rfl rfl 2 (by decide) (hts _ tw_89) (fun _ h9 => h9) rfl (by decide +kernel) rfl rfl (Nat.le_of_ble_eq_true rfl) dX7_putFour_39 (fun H locs hP hD hS => ?_)
  have hP : va_P D classes [(tp, .inr (7, [.ref t1, .ref t2, .int 19, .int sp, .int tl, .int bg, .int af, .int kd, .long nm, .int nb, .int ft, .int pl])), (t1, .inl (cy 0, 940, .inl g_9))] H := hP
  have hD : va_D A [(tp, .inr (7, [.ref t1, .ref t2, .int 19, .int sp, .int tl, .int bg, .int af, .int kd, .long nm, .int nb, .int ft, .int pl])), (t1, .inl (cy 0, 940, .inl g_9))] := hD
  refine lv_iinc (v := 0) (lv' := [(2, .int 0), (0, .ref tp), (1, .int v)]) hx hb dX7_putFour_42 hl (k := 0) rfl (by decide) (by decide) rfl (fun ls hl => ?_)
  refine lv_goto (tgt := 3) hx hb dX7_putFour_45 (by decide) ?_
  refine lv_iload_n hx hb dX7_putFour_3 rfl (lv_at hl 0 rfl) ?_
  refine lv_if_lt (tgt := 48) hx hb dX7_putFour_4 (by decide) (fun c9 => absurd c9 (by decide)) (fun _ => ?_)
  refine lv_aload_n hx hb dX7_putFour_7 rfl (lv_at hl 1 rfl) ?_
  refine va_get (D := D) (ci := 7) (v := .int 19) (C := RX7) (T := TX7) (N := 12) hx hb hts inX7 hown hK hP 0 rfl rfl 2 (by decide) (hts _ tw_89) (fun _ h9 => h9) rfl dX7_putFour_8 ?_
  refine lv_aload_n hx hb dX7_putFour_11 rfl (lv_at hl 1 rfl) ?_
  refine va_get (D := D) (ci := 7) (v := .ref t1) (C := RX7) (T := TX7) (N := 12) hx hb hts inX7 hown hK hP 0 rfl rfl 0 (by decide) (hts _ tw_87) (fun _ h9 => h9) rfl dX7_putFour_12 ?_
  refine va_alen (v := 940) hx hb hK hP 1 0 rfl rfl rfl dX7_putFour_15 ?_
  refine lv_icmp_ge (tgt := 48) hx hb dX7_putFour_16 (by decide) (fun c9 => absurd c9 (by decide)) (fun _ => ?_)
  refine lv_aload_n hx hb dX7_putFour_19 rfl (lv_at hl 1 rfl) ?_
  refine va_get (D := D) (ci := 7) (v := .ref t1) (C := RX7) (T := TX7) (N := 12) hx hb hts inX7 hown hK hP 0 rfl rfl 0 (by decide) (hts _ tw_87) (fun _ h9 => h9) rfl dX7_putFour_20 ?_
  refine lv_aload_n hx hb dX7_putFour_23 rfl (lv_at hl 1 rfl) ?_
  refine va_get (D := D) (ci := 7) (v := .int 19) (C := RX7) (T := TX7) (N := 12) hx hb hts inX7 hown hK hP 0 rfl rfl 2 (by decide) (hts _ tw_89) (fun _ h9 => h9) rfl dX7_putFour_24 ?_
  refine lv_iload_n hx hb dX7_putFour_27 rfl (lv_at hl 2 rfl) ?_
  refine lv_iload_n hx hb dX7_putFour_28 rfl (lv_at hl 0 rfl) ?_
  obtain ⟨v_10, ev_10⟩ : ∃ y : Int32, ((Int32.toUInt32 v >>> (Int32.toUInt32 0 &&& Int32.toUInt32 31)).toInt32 : Int32) = y := ⟨_, rfl⟩
  refine lv_iushr (v := v_10) hx hb dX7_putFour_29 ev_10 ?_
  obtain ⟨v_11, ev_11⟩ : ∃ y : Int32, (v_10).toInt8.toInt32 = y := ⟨_, rfl⟩
  refine lv_i2b (v := v_11) hx hb dX7_putFour_30 ev_11 ?_
  refine va_bast hx hb hK hP hD hS 1 0 rfl rfl (vp_in_nI (n := 19) (N := 940) (by decide) (by decide)) dX7_putFour_31 (fun H locs hP hD hS => ?_)
  obtain ⟨g_12, eg_12⟩ : ∃ g, g = upd g_9 (Int32.toNatClampNeg 19) (vp_nar .byte v_11) := ⟨_, rfl⟩
  have hP : va_P D classes [(tp, .inr (7, [.ref t1, .ref t2, .int 19, .int sp, .int tl, .int bg, .int af, .int kd, .long nm, .int nb, .int ft, .int pl])), (t1, .inl (cy 0, 940, .inl g_12))] H := by rw [eg_12]; exact hP
  have hD : va_D A [(tp, .inr (7, [.ref t1, .ref t2, .int 19, .int sp, .int tl, .int bg, .int af, .int kd, .long nm, .int nb, .int ft, .int pl])), (t1, .inl (cy 0, 940, .inl g_12))] := by rw [eg_12]; exact hD
  refine lv_aload_n hx hb dX7_putFour_32 rfl (lv_at hl 1 rfl) ?_
  refine lv_dup hx hb dX7_putFour_33 rfl ?_
  refine va_get (D := D) (ci := 7) (v := .int 19) (C := RX7) (T := TX7) (N := 12) hx hb hts inX7 hown hK hP 0 rfl rfl 2 (by decide) (hts _ tw_89) (fun _ h9 => h9) rfl dX7_putFour_34 ?_
  refine lv_iconst (v := 1) hx hb dX7_putFour_37 (by decide) ?_
  refine lv_iadd hx hb dX7_putFour_38 ?_
  refine tI (y := 20) (by decide) ?_
  refine va_put (D := D) (ci := 7) (v := .int 20) (ty := .int) (C := RX7) (T := TX7) (N := 12) hx hb hts inX7 tyX7 tyX7_ok nmX7 hown hK hP hD hS 0 rfl rfl 2 (by decide) (hts _ tw_89) (fun _ h9 => h9) rfl (by decide +kernel) rfl rfl (Nat.le_of_ble_eq_true rfl) dX7_putFour_39 (fun H locs hP hD hS => ?_)
  have hP : va_P D classes [(tp, .inr (7, [.ref t1, .ref t2, .int 20, .int sp, .int tl, .int bg, .int af, .int kd, .long nm, .int nb, .int ft, .int pl])), (t1, .inl (cy 0, 940, .inl g_12))] H := hP
  have hD : va_D A [(tp, .inr (7, [.ref t1, .ref t2, .int 20, .int sp, .int tl, .int bg, .int af, .int kd, .long nm, .int nb, .int ft, .int pl])), (t1, .inl (cy 0, 940, .inl g_12))] := hD
  refine lv_iinc (v := (-8)) (lv' := [(2, .int (-8)), (0, .ref tp), (1, .int v)]) hx hb dX7_putFour_42 hl (k := 0) rfl (by decide) (by decide) rfl (fun ls hl => ?_)
  refine lv_goto (tgt := 3) hx hb dX7_putFour_45 (by decide) ?_
  refine lv_iload_n hx hb dX7_putFour_3 rfl (lv_at hl 0 rfl) ?_
  refine lv_if_lt (tgt := 48) hx hb dX7_putFour_4 (by decide) (fun _ => ?_) (fun c9 => absurd (by decide) c9)
  have hP9 : va_P D classes [(tp, .inr (7, [.ref t1, .ref t2, .int 20, .int sp, .int tl, .int bg, .int af, .int kd, .long nm, .int nb, .int ft, .int pl])), (t1, .inl (cy 0, 940, .inl g_12))] H := subP hP [0, 1] rfl
  have hD9 : va_D A [(tp, .inr (7, [.ref t1, .ref t2, .int 20, .int sp, .int tl, .int bg, .int af, .int kd, .long nm, .int nb, .int ft, .int pl])), (t1, .inl (cy 0, 940, .inl g_12))] := hD.sub [0, 1] (by decide) rfl
  exact W.vret hx hb hr (fun t ht hW => ⟨⟨((g_12)), rfl, trivial, by rw [ht]; exact hP9, va_K.moved hW.alike hK, hD9⟩, hS.F ht⟩) hS.2.2 dX7_putFour_48
set_option maxHeartbeats 4000000 in
set_option maxRecDepth 100000 in
theorem c_T_at (l : Launch) (D : va_G) (cy : Nat → ClassId) (z : Nat → Nat) (sz : Nat) (tp : Nat) (t1 : Nat) (t2 : Nat) (sp : Int32) (tl : Int32) (bg : Int32) (af : Int32) (kd : Int32) (nm : Int64) (nb : Int32) (ft : Int32) (pl : Int32) (k : Nat) (hk : k < 4) : Met l yX7_at (Cond.code yX7_at cX7_at 2 (some .int) :: gT) ({ frames := 0, cells := 0, slots := 0, locals := 200 } : Room) (va_Pc [.ref tp, .int (nI k)] (PRE D cy z [(tp, .inr (7, [.ref t1, .ref t2, .int 0, .int sp, .int tl, .int bg, .int af, .int kd, .long nm, .int nb, .int ft, .int pl]))] sz)) (va_Qi (fun (r : Int32) (u : Unit) => r = (-1)) (BB D cy (va_A [(tp, .inr (7, [.ref t1, .ref t2, .int 0, .int sp, .int tl, .int bg, .int af, .int kd, .long nm, .int nb, .int ft, .int pl]))] sz) (fun (u : Unit) => [(tp, .inr (7, [.ref t1, .ref t2, .int 0, .int sp, .int tl, .int bg, .int af, .int kd, .long nm, .int nb, .int ft, .int pl]))])) (va_A [(tp, .inr (7, [.ref t1, .ref t2, .int 0, .int sp, .int tl, .int bg, .int af, .int kd, .long nm, .int nb, .int ft, .int pl]))] sz)) 0 0 (va_A [(tp, .inr (7, [.ref t1, .ref t2, .int 0, .int sp, .int tl, .int bg, .int af, .int kd, .long nm, .int nb, .int ft, .int pl]))] sz) := by
  refine Met.ofW (cc := cX7_at) (maxL := 2) (ret := (some .int)) (by decide) rfl ?_
  intro p e s m args below meth c s₁ B hml hv
  obtain ⟨rfl, hsz, hP, hK, hD0, hSD⟩ := hv
  have hx := B.exec
  have hb := B.bytes
  have hr := B.returns
  have hlocks := B.notSynchronized
  have hts : ∀ w ∈ gT, w.before _ s = true := fun w h => atoms_spec (ws := Cond.code yX7_at cX7_at 2 (some .int) :: gT) B.pre w (List.mem_cons_of_mem _ h)
  have hown : s.vm.findClass RX7 = some m.cls := findClass_of_methodNamed B.named
  subst hsz
  have hD := hD0.self (sz := s.heap.size)
  generalize hAe : va_A [(tp, .inr (7, [.ref t1, .ref t2, .int 0, .int sp, .int tl, .int bg, .int af, .int kd, .long nm, .int nb, .int ft, .int pl]))] s.heap.size = A at hD hSD ⊢
  have hA : ∀ q : Nat, s.heap.size ≤ q → A q := fun q h => by rw [← hAe]; exact Or.inr h
  have hS : va_S A s.heap s.heap [] := va_S.rf
  have hl := lv_entry ([.ref tp, .int (nI k)]) (n := 2) (Nat.le_of_ble_eq_true rfl)
  rw [lg_entry_eq]
  generalize (lg_sl ([.ref tp, .int (nI k)]) ++ List.replicate (2 - (lg_sl ([.ref tp, .int (nI k)])).length) Slot.unset).toArray = ls at hl ⊢
  have hl : lv_has ls 2 [(0, .ref tp), (1, .int (nI k))] := hl
  refine lv_iload_n hx hb dX7_at_0 rfl (lv_at hl 1 rfl) ?_
  refine lv_if_lt (tgt := 25) hx hb dX7_at_1 (by decide) (fun c_1 => absurd c_1 (nI_pos (by omega))) (fun c_1 => ?_)
  refine lv_iload_n hx hb dX7_at_4 rfl (lv_at hl 1 rfl) ?_
  refine lv_aload_n hx hb dX7_at_5 rfl (lv_at hl 0 rfl) ?_
  refine va_get (D := D) (ci := 7) (v := .int 0) (C := RX7) (T := TX7) (N := 12) hx hb hts inX7 hown hK hP 0 rfl rfl 2 (by decide) (hts _ tw_89) (fun _ h9 => h9) rfl dX7_at_6 ?_
  refine lv_icmp_ge (tgt := 25) hx hb dX7_at_9 (by decide) (fun c_9 => ?_) (fun c_9 => absurd (nI_pos' (by omega)) c_9)
  refine lv_iconst (v := (-1)) hx hb dX7_at_25 (by decide) ?_
  have hP9 : va_P D classes [(tp, .inr (7, [.ref t1, .ref t2, .int 0, .int sp, .int tl, .int bg, .int af, .int kd, .long nm, .int nb, .int ft, .int pl]))] s.heap := subP hP [0] rfl
  have hD9 : va_D A [(tp, .inr (7, [.ref t1, .ref t2, .int 0, .int sp, .int tl, .int bg, .int af, .int kd, .long nm, .int nb, .int ft, .int pl]))] := hD.sub [0] (by decide) rfl
  exact W.iret (v := (-1)) hx hb hr (fun t ht hW => ⟨⟨(-1), (), rfl, rfl, by rw [ht]; exact hP9, va_K.moved hW.alike hK, hD9⟩, hS.F ht⟩) hS.2.2 dX7_at_26
end
