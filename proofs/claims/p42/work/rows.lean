section
-- ===== PART A: goes FIRST, ahead of the names: the tables' words, and 'selects' of the private methods out of them =====
/-- a private method of a class that the tables say can be made, by its rows of tables_1 -/
def lw_okq (q : MethodName × Nat) : Prop := (q.1.cls ≠ "java/lang/invoke/MethodHandle" ∧ q.1.cls ≠ "java/lang/invoke/VarHandle") ∧ Cond.instantiable q.1.cls q.2 ∈ tables_1 ∧ Cond.privateMethod q.1 ∈ tables_1 ∧ Cond.instanceMethod q.1 ∈ tables_1
theorem lw_p0 : lw_okq (⟨"AngleNet$Tape", "advance", "()V"⟩, 11) := ⟨⟨by decide +kernel, by decide +kernel⟩, List.mem_of_getElem? (i := 30) (by decide +kernel), List.mem_of_getElem? (i := 337) (by decide +kernel), List.mem_of_getElem? (i := 338) (by decide +kernel)⟩
theorem lw_p1 : lw_okq (⟨"AngleNet$Tape", "readLine", "()Z"⟩, 11) := ⟨⟨by decide +kernel, by decide +kernel⟩, List.mem_of_getElem? (i := 30) (by decide +kernel), List.mem_of_getElem? (i := 347) (by decide +kernel), List.mem_of_getElem? (i := 348) (by decide +kernel)⟩
theorem lw_p2 : lw_okq (⟨"AngleNet$Tape", "takeWord", "(Ljava/lang/String;)Z"⟩, 11) := ⟨⟨by decide +kernel, by decide +kernel⟩, List.mem_of_getElem? (i := 30) (by decide +kernel), List.mem_of_getElem? (i := 352) (by decide +kernel), List.mem_of_getElem? (i := 353) (by decide +kernel)⟩
theorem lw_p3 : lw_okq (⟨"AngleNet$Tape", "readPosts", "()Z"⟩, 11) := ⟨⟨by decide +kernel, by decide +kernel⟩, List.mem_of_getElem? (i := 30) (by decide +kernel), List.mem_of_getElem? (i := 404) (by decide +kernel), List.mem_of_getElem? (i := 405) (by decide +kernel)⟩
theorem lw_p4 : lw_okq (⟨"AngleNet$Tape", "takeNumber", "(II)Z"⟩, 11) := ⟨⟨by decide +kernel, by decide +kernel⟩, List.mem_of_getElem? (i := 30) (by decide +kernel), List.mem_of_getElem? (i := 408) (by decide +kernel), List.mem_of_getElem? (i := 409) (by decide +kernel)⟩
theorem lw_p5 : lw_okq (⟨"AngleNet$Tape", "fail", "(II)Z"⟩, 11) := ⟨⟨by decide +kernel, by decide +kernel⟩, List.mem_of_getElem? (i := 30) (by decide +kernel), List.mem_of_getElem? (i := 412) (by decide +kernel), List.mem_of_getElem? (i := 413) (by decide +kernel)⟩
theorem lw_p6 : lw_okq (⟨"AngleNet$Tape", "valueOfToken", "()I"⟩, 11) := ⟨⟨by decide +kernel, by decide +kernel⟩, List.mem_of_getElem? (i := 30) (by decide +kernel), List.mem_of_getElem? (i := 416) (by decide +kernel), List.mem_of_getElem? (i := 417) (by decide +kernel)⟩
theorem lw_p7 : lw_okq (⟨"AngleNet$Tape", "readThird", "()Z"⟩, 11) := ⟨⟨by decide +kernel, by decide +kernel⟩, List.mem_of_getElem? (i := 30) (by decide +kernel), List.mem_of_getElem? (i := 426) (by decide +kernel), List.mem_of_getElem? (i := 427) (by decide +kernel)⟩
theorem lw_p8 : lw_okq (⟨"AngleNet$Tape", "takePost", "()Z"⟩, 11) := ⟨⟨by decide +kernel, by decide +kernel⟩, List.mem_of_getElem? (i := 30) (by decide +kernel), List.mem_of_getElem? (i := 430) (by decide +kernel), List.mem_of_getElem? (i := 431) (by decide +kernel)⟩
theorem lw_p9 : lw_okq (⟨"AngleNet$Tape", "readSum", "(III)Z"⟩, 11) := ⟨⟨by decide +kernel, by decide +kernel⟩, List.mem_of_getElem? (i := 30) (by decide +kernel), List.mem_of_getElem? (i := 442) (by decide +kernel), List.mem_of_getElem? (i := 443) (by decide +kernel)⟩
theorem lw_p10 : lw_okq (⟨"AngleNet$Net", "shareSides", "(II)V"⟩, 16) := ⟨⟨by decide +kernel, by decide +kernel⟩, List.mem_of_getElem? (i := 36) (by decide +kernel), List.mem_of_getElem? (i := 451) (by decide +kernel), List.mem_of_getElem? (i := 452) (by decide +kernel)⟩
theorem lw_p11 : lw_okq (⟨"AngleNet$Tape", "readAngle", "()Z"⟩, 11) := ⟨⟨by decide +kernel, by decide +kernel⟩, List.mem_of_getElem? (i := 30) (by decide +kernel), List.mem_of_getElem? (i := 456) (by decide +kernel), List.mem_of_getElem? (i := 457) (by decide +kernel)⟩
theorem lw_p12 : lw_okq (⟨"AngleNet$Tape", "readCorner", "()Z"⟩, 11) := ⟨⟨by decide +kernel, by decide +kernel⟩, List.mem_of_getElem? (i := 30) (by decide +kernel), List.mem_of_getElem? (i := 461) (by decide +kernel), List.mem_of_getElem? (i := 462) (by decide +kernel)⟩
theorem lw_p13 : lw_okq (⟨"AngleNet$Tape", "readWeight", "()Z"⟩, 11) := ⟨⟨by decide +kernel, by decide +kernel⟩, List.mem_of_getElem? (i := 30) (by decide +kernel), List.mem_of_getElem? (i := 467) (by decide +kernel), List.mem_of_getElem? (i := 468) (by decide +kernel)⟩
theorem lw_p14 : lw_okq (⟨"AngleNet$Tape", "readPlace", "()Z"⟩, 11) := ⟨⟨by decide +kernel, by decide +kernel⟩, List.mem_of_getElem? (i := 30) (by decide +kernel), List.mem_of_getElem? (i := 484) (by decide +kernel), List.mem_of_getElem? (i := 485) (by decide +kernel)⟩
theorem lw_p15 : lw_okq (⟨"AngleNet$Tape", "readCircle", "()Z"⟩, 11) := ⟨⟨by decide +kernel, by decide +kernel⟩, List.mem_of_getElem? (i := 30) (by decide +kernel), List.mem_of_getElem? (i := 489) (by decide +kernel), List.mem_of_getElem? (i := 490) (by decide +kernel)⟩
def lw_privs_1 : List (MethodName × Nat) := [(⟨"AngleNet$Tape", "advance", "()V"⟩, 11), (⟨"AngleNet$Tape", "readLine", "()Z"⟩, 11), (⟨"AngleNet$Tape", "takeWord", "(Ljava/lang/String;)Z"⟩, 11), (⟨"AngleNet$Tape", "readPosts", "()Z"⟩, 11), (⟨"AngleNet$Tape", "takeNumber", "(II)Z"⟩, 11), (⟨"AngleNet$Tape", "fail", "(II)Z"⟩, 11), (⟨"AngleNet$Tape", "valueOfToken", "()I"⟩, 11), (⟨"AngleNet$Tape", "readThird", "()Z"⟩, 11), (⟨"AngleNet$Tape", "takePost", "()Z"⟩, 11), (⟨"AngleNet$Tape", "readSum", "(III)Z"⟩, 11), (⟨"AngleNet$Net", "shareSides", "(II)V"⟩, 16), (⟨"AngleNet$Tape", "readAngle", "()Z"⟩, 11), (⟨"AngleNet$Tape", "readCorner", "()Z"⟩, 11), (⟨"AngleNet$Tape", "readWeight", "()Z"⟩, 11), (⟨"AngleNet$Tape", "readPlace", "()Z"⟩, 11), (⟨"AngleNet$Tape", "readCircle", "()Z"⟩, 11)]
theorem lw_r1 : ∀ q ∈ lw_privs_1, lw_okq q := List.forall_mem_cons.mpr ⟨lw_p0, List.forall_mem_cons.mpr ⟨lw_p1, List.forall_mem_cons.mpr ⟨lw_p2, List.forall_mem_cons.mpr ⟨lw_p3, List.forall_mem_cons.mpr ⟨lw_p4, List.forall_mem_cons.mpr ⟨lw_p5, List.forall_mem_cons.mpr ⟨lw_p6, List.forall_mem_cons.mpr ⟨lw_p7, List.forall_mem_cons.mpr ⟨lw_p8, List.forall_mem_cons.mpr ⟨lw_p9, List.forall_mem_cons.mpr ⟨lw_p10, List.forall_mem_cons.mpr ⟨lw_p11, List.forall_mem_cons.mpr ⟨lw_p12, List.forall_mem_cons.mpr ⟨lw_p13, List.forall_mem_cons.mpr ⟨lw_p14, List.forall_mem_cons.mpr ⟨lw_p15, fun _ h => absurd h List.not_mem_nil⟩⟩⟩⟩⟩⟩⟩⟩⟩⟩⟩⟩⟩⟩⟩⟩
theorem lw_p16 : lw_okq (⟨"AngleNet$Shape", "hangsTogether", "(LAngleNet$Net;I)Z"⟩, 2) := ⟨⟨by decide +kernel, by decide +kernel⟩, List.mem_of_getElem? (i := 214) (by decide +kernel), List.mem_of_getElem? (i := 574) (by decide +kernel), List.mem_of_getElem? (i := 575) (by decide +kernel)⟩
theorem lw_p17 : lw_okq (⟨"AngleNet$Shape", "turnOthersFrom", "(LAngleNet$Net;I)Z"⟩, 2) := ⟨⟨by decide +kernel, by decide +kernel⟩, List.mem_of_getElem? (i := 214) (by decide +kernel), List.mem_of_getElem? (i := 593) (by decide +kernel), List.mem_of_getElem? (i := 594) (by decide +kernel)⟩
theorem lw_p18 : lw_okq (⟨"AngleNet$Laying", "begin", "(LAngleNet$Net;I)I"⟩, 8) := ⟨⟨by decide +kernel, by decide +kernel⟩, List.mem_of_getElem? (i := 227) (by decide +kernel), List.mem_of_getElem? (i := 677) (by decide +kernel), List.mem_of_getElem? (i := 678) (by decide +kernel)⟩
theorem lw_p19 : lw_okq (⟨"AngleNet$Laying", "goTo", "(LAngleNet$Net;I)V"⟩, 8) := ⟨⟨by decide +kernel, by decide +kernel⟩, List.mem_of_getElem? (i := 227) (by decide +kernel), List.mem_of_getElem? (i := 692) (by decide +kernel), List.mem_of_getElem? (i := 693) (by decide +kernel)⟩
theorem lw_p20 : lw_okq (⟨"AngleNet$Laying", "move", "(LAngleNet$Net;II)V"⟩, 8) := ⟨⟨by decide +kernel, by decide +kernel⟩, List.mem_of_getElem? (i := 227) (by decide +kernel), List.mem_of_getElem? (i := 697) (by decide +kernel), List.mem_of_getElem? (i := 698) (by decide +kernel)⟩
theorem lw_p21 : lw_okq (⟨"AngleNet$Laying", "way", "()I"⟩, 8) := ⟨⟨by decide +kernel, by decide +kernel⟩, List.mem_of_getElem? (i := 227) (by decide +kernel), List.mem_of_getElem? (i := 701) (by decide +kernel), List.mem_of_getElem? (i := 702) (by decide +kernel)⟩
theorem lw_p22 : lw_okq (⟨"AngleNet$Laying", "mostForCorner", "(LAngleNet$Net;II)I"⟩, 8) := ⟨⟨by decide +kernel, by decide +kernel⟩, List.mem_of_getElem? (i := 227) (by decide +kernel), List.mem_of_getElem? (i := 721) (by decide +kernel), List.mem_of_getElem? (i := 722) (by decide +kernel)⟩
theorem lw_p23 : lw_okq (⟨"AngleNet$Laying", "leastForCorner", "(LAngleNet$Net;II)I"⟩, 8) := ⟨⟨by decide +kernel, by decide +kernel⟩, List.mem_of_getElem? (i := 227) (by decide +kernel), List.mem_of_getElem? (i := 725) (by decide +kernel), List.mem_of_getElem? (i := 726) (by decide +kernel)⟩
theorem lw_p24 : lw_okq (⟨"AngleNet", "flipAnew", "(II)I"⟩, 9) := ⟨⟨by decide +kernel, by decide +kernel⟩, List.mem_of_getElem? (i := 22) (by decide +kernel), List.mem_of_getElem? (i := 795) (by decide +kernel), List.mem_of_getElem? (i := 796) (by decide +kernel)⟩
theorem lw_p25 : lw_okq (⟨"AngleNet$Currents", "layOut", "(LAngleNet$Net;III)V"⟩, 4) := ⟨⟨by decide +kernel, by decide +kernel⟩, List.mem_of_getElem? (i := 258) (by decide +kernel), List.mem_of_getElem? (i := 908) (by decide +kernel), List.mem_of_getElem? (i := 909) (by decide +kernel)⟩
theorem lw_p26 : lw_okq (⟨"AngleNet$Currents", "clearColumns", "()J"⟩, 4) := ⟨⟨by decide +kernel, by decide +kernel⟩, List.mem_of_getElem? (i := 258) (by decide +kernel), List.mem_of_getElem? (i := 915) (by decide +kernel), List.mem_of_getElem? (i := 916) (by decide +kernel)⟩
theorem lw_p27 : lw_okq (⟨"AngleNet$Currents", "clearRow", "(IIJ)V"⟩, 4) := ⟨⟨by decide +kernel, by decide +kernel⟩, List.mem_of_getElem? (i := 258) (by decide +kernel), List.mem_of_getElem? (i := 919) (by decide +kernel), List.mem_of_getElem? (i := 920) (by decide +kernel)⟩
theorem lw_p28 : lw_okq (⟨"AngleNet", "hasFlow", "(II)Z"⟩, 9) := ⟨⟨by decide +kernel, by decide +kernel⟩, List.mem_of_getElem? (i := 22) (by decide +kernel), List.mem_of_getElem? (i := 927) (by decide +kernel), List.mem_of_getElem? (i := 928) (by decide +kernel)⟩
theorem lw_p29 : lw_okq (⟨"AngleNet", "flipInThought", "(J)Z"⟩, 9) := ⟨⟨by decide +kernel, by decide +kernel⟩, List.mem_of_getElem? (i := 22) (by decide +kernel), List.mem_of_getElem? (i := 977) (by decide +kernel), List.mem_of_getElem? (i := 978) (by decide +kernel)⟩
theorem lw_p30 : lw_okq (⟨"AngleNet", "slotsInUse", "()I"⟩, 9) := ⟨⟨by decide +kernel, by decide +kernel⟩, List.mem_of_getElem? (i := 22) (by decide +kernel), List.mem_of_getElem? (i := 1008) (by decide +kernel), List.mem_of_getElem? (i := 1009) (by decide +kernel)⟩
theorem lw_p31 : lw_okq (⟨"AngleNetModel", "advance", "()V"⟩, 28) := ⟨⟨by decide +kernel, by decide +kernel⟩, List.mem_of_getElem? (i := 1046) (by decide +kernel), List.mem_of_getElem? (i := 1164) (by decide +kernel), List.mem_of_getElem? (i := 1165) (by decide +kernel)⟩
def lw_privs_2 : List (MethodName × Nat) := [(⟨"AngleNet$Shape", "hangsTogether", "(LAngleNet$Net;I)Z"⟩, 2), (⟨"AngleNet$Shape", "turnOthersFrom", "(LAngleNet$Net;I)Z"⟩, 2), (⟨"AngleNet$Laying", "begin", "(LAngleNet$Net;I)I"⟩, 8), (⟨"AngleNet$Laying", "goTo", "(LAngleNet$Net;I)V"⟩, 8), (⟨"AngleNet$Laying", "move", "(LAngleNet$Net;II)V"⟩, 8), (⟨"AngleNet$Laying", "way", "()I"⟩, 8), (⟨"AngleNet$Laying", "mostForCorner", "(LAngleNet$Net;II)I"⟩, 8), (⟨"AngleNet$Laying", "leastForCorner", "(LAngleNet$Net;II)I"⟩, 8), (⟨"AngleNet", "flipAnew", "(II)I"⟩, 9), (⟨"AngleNet$Currents", "layOut", "(LAngleNet$Net;III)V"⟩, 4), (⟨"AngleNet$Currents", "clearColumns", "()J"⟩, 4), (⟨"AngleNet$Currents", "clearRow", "(IIJ)V"⟩, 4), (⟨"AngleNet", "hasFlow", "(II)Z"⟩, 9), (⟨"AngleNet", "flipInThought", "(J)Z"⟩, 9), (⟨"AngleNet", "slotsInUse", "()I"⟩, 9), (⟨"AngleNetModel", "advance", "()V"⟩, 28)]
theorem lw_r2 : ∀ q ∈ lw_privs_2, lw_okq q := List.forall_mem_cons.mpr ⟨lw_p16, List.forall_mem_cons.mpr ⟨lw_p17, List.forall_mem_cons.mpr ⟨lw_p18, List.forall_mem_cons.mpr ⟨lw_p19, List.forall_mem_cons.mpr ⟨lw_p20, List.forall_mem_cons.mpr ⟨lw_p21, List.forall_mem_cons.mpr ⟨lw_p22, List.forall_mem_cons.mpr ⟨lw_p23, List.forall_mem_cons.mpr ⟨lw_p24, List.forall_mem_cons.mpr ⟨lw_p25, List.forall_mem_cons.mpr ⟨lw_p26, List.forall_mem_cons.mpr ⟨lw_p27, List.forall_mem_cons.mpr ⟨lw_p28, List.forall_mem_cons.mpr ⟨lw_p29, List.forall_mem_cons.mpr ⟨lw_p30, List.forall_mem_cons.mpr ⟨lw_p31, fun _ h => absurd h List.not_mem_nil⟩⟩⟩⟩⟩⟩⟩⟩⟩⟩⟩⟩⟩⟩⟩⟩
theorem lw_p32 : lw_okq (⟨"AngleNetModel", "see", "(I)I"⟩, 28) := ⟨⟨by decide +kernel, by decide +kernel⟩, List.mem_of_getElem? (i := 1046) (by decide +kernel), List.mem_of_getElem? (i := 1168) (by decide +kernel), List.mem_of_getElem? (i := 1169) (by decide +kernel)⟩
theorem lw_p33 : lw_okq (⟨"AngleNetModel", "good", "()Z"⟩, 28) := ⟨⟨by decide +kernel, by decide +kernel⟩, List.mem_of_getElem? (i := 1046) (by decide +kernel), List.mem_of_getElem? (i := 1178) (by decide +kernel), List.mem_of_getElem? (i := 1179) (by decide +kernel)⟩
theorem lw_p34 : lw_okq (⟨"AngleNetModel", "readLine", "()V"⟩, 28) := ⟨⟨by decide +kernel, by decide +kernel⟩, List.mem_of_getElem? (i := 1046) (by decide +kernel), List.mem_of_getElem? (i := 1182) (by decide +kernel), List.mem_of_getElem? (i := 1183) (by decide +kernel)⟩
theorem lw_p35 : lw_okq (⟨"AngleNetModel", "told", "(Ljava/lang/String;II)I"⟩, 28) := ⟨⟨by decide +kernel, by decide +kernel⟩, List.mem_of_getElem? (i := 1046) (by decide +kernel), List.mem_of_getElem? (i := 1187) (by decide +kernel), List.mem_of_getElem? (i := 1188) (by decide +kernel)⟩
theorem lw_p36 : lw_okq (⟨"AngleNetModel", "needs", "(Ljava/lang/String;)V"⟩, 28) := ⟨⟨by decide +kernel, by decide +kernel⟩, List.mem_of_getElem? (i := 1046) (by decide +kernel), List.mem_of_getElem? (i := 1191) (by decide +kernel), List.mem_of_getElem? (i := 1192) (by decide +kernel)⟩
theorem lw_p37 : lw_okq (⟨"AngleNetModel", "takes", "(Ljava/lang/String;)Z"⟩, 28) := ⟨⟨by decide +kernel, by decide +kernel⟩, List.mem_of_getElem? (i := 1046) (by decide +kernel), List.mem_of_getElem? (i := 1195) (by decide +kernel), List.mem_of_getElem? (i := 1196) (by decide +kernel)⟩
theorem lw_p38 : lw_okq (⟨"AngleNetModel", "is", "(Ljava/lang/String;)Z"⟩, 28) := ⟨⟨by decide +kernel, by decide +kernel⟩, List.mem_of_getElem? (i := 1046) (by decide +kernel), List.mem_of_getElem? (i := 1199) (by decide +kernel), List.mem_of_getElem? (i := 1200) (by decide +kernel)⟩
theorem lw_p39 : lw_okq (⟨"AngleNetModel", "errs", "(I)V"⟩, 28) := ⟨⟨by decide +kernel, by decide +kernel⟩, List.mem_of_getElem? (i := 1046) (by decide +kernel), List.mem_of_getElem? (i := 1205) (by decide +kernel), List.mem_of_getElem? (i := 1206) (by decide +kernel)⟩
theorem lw_p40 : lw_okq (⟨"AngleNetModel", "number", "(II)I"⟩, 28) := ⟨⟨by decide +kernel, by decide +kernel⟩, List.mem_of_getElem? (i := 1046) (by decide +kernel), List.mem_of_getElem? (i := 1209) (by decide +kernel), List.mem_of_getElem? (i := 1210) (by decide +kernel)⟩
theorem lw_p41 : lw_okq (⟨"AngleNetModel", "readNext", "()V"⟩, 28) := ⟨⟨by decide +kernel, by decide +kernel⟩, List.mem_of_getElem? (i := 1046) (by decide +kernel), List.mem_of_getElem? (i := 1213) (by decide +kernel), List.mem_of_getElem? (i := 1214) (by decide +kernel)⟩
theorem lw_p42 : lw_okq (⟨"AngleNetModel", "readThird", "()V"⟩, 28) := ⟨⟨by decide +kernel, by decide +kernel⟩, List.mem_of_getElem? (i := 1046) (by decide +kernel), List.mem_of_getElem? (i := 1223) (by decide +kernel), List.mem_of_getElem? (i := 1224) (by decide +kernel)⟩
theorem lw_p43 : lw_okq (⟨"AngleNetModel", "freshPost", "()I"⟩, 28) := ⟨⟨by decide +kernel, by decide +kernel⟩, List.mem_of_getElem? (i := 1046) (by decide +kernel), List.mem_of_getElem? (i := 1227) (by decide +kernel), List.mem_of_getElem? (i := 1228) (by decide +kernel)⟩
theorem lw_p44 : lw_okq (⟨"AngleNetModel", "freshOther", "(I)I"⟩, 28) := ⟨⟨by decide +kernel, by decide +kernel⟩, List.mem_of_getElem? (i := 1046) (by decide +kernel), List.mem_of_getElem? (i := 1231) (by decide +kernel), List.mem_of_getElem? (i := 1232) (by decide +kernel)⟩
theorem lw_p45 : lw_okq (⟨"AngleNetModel", "readCorner", "()V"⟩, 28) := ⟨⟨by decide +kernel, by decide +kernel⟩, List.mem_of_getElem? (i := 1046) (by decide +kernel), List.mem_of_getElem? (i := 1245) (by decide +kernel), List.mem_of_getElem? (i := 1246) (by decide +kernel)⟩
theorem lw_p46 : lw_okq (⟨"AngleNetModel", "readWeight", "()V"⟩, 28) := ⟨⟨by decide +kernel, by decide +kernel⟩, List.mem_of_getElem? (i := 1046) (by decide +kernel), List.mem_of_getElem? (i := 1250) (by decide +kernel), List.mem_of_getElem? (i := 1251) (by decide +kernel)⟩
theorem lw_p47 : lw_okq (⟨"AngleNetModel", "readPlace", "()V"⟩, 28) := ⟨⟨by decide +kernel, by decide +kernel⟩, List.mem_of_getElem? (i := 1046) (by decide +kernel), List.mem_of_getElem? (i := 1254) (by decide +kernel), List.mem_of_getElem? (i := 1255) (by decide +kernel)⟩
def lw_privs_3 : List (MethodName × Nat) := [(⟨"AngleNetModel", "see", "(I)I"⟩, 28), (⟨"AngleNetModel", "good", "()Z"⟩, 28), (⟨"AngleNetModel", "readLine", "()V"⟩, 28), (⟨"AngleNetModel", "told", "(Ljava/lang/String;II)I"⟩, 28), (⟨"AngleNetModel", "needs", "(Ljava/lang/String;)V"⟩, 28), (⟨"AngleNetModel", "takes", "(Ljava/lang/String;)Z"⟩, 28), (⟨"AngleNetModel", "is", "(Ljava/lang/String;)Z"⟩, 28), (⟨"AngleNetModel", "errs", "(I)V"⟩, 28), (⟨"AngleNetModel", "number", "(II)I"⟩, 28), (⟨"AngleNetModel", "readNext", "()V"⟩, 28), (⟨"AngleNetModel", "readThird", "()V"⟩, 28), (⟨"AngleNetModel", "freshPost", "()I"⟩, 28), (⟨"AngleNetModel", "freshOther", "(I)I"⟩, 28), (⟨"AngleNetModel", "readCorner", "()V"⟩, 28), (⟨"AngleNetModel", "readWeight", "()V"⟩, 28), (⟨"AngleNetModel", "readPlace", "()V"⟩, 28)]
theorem lw_r3 : ∀ q ∈ lw_privs_3, lw_okq q := List.forall_mem_cons.mpr ⟨lw_p32, List.forall_mem_cons.mpr ⟨lw_p33, List.forall_mem_cons.mpr ⟨lw_p34, List.forall_mem_cons.mpr ⟨lw_p35, List.forall_mem_cons.mpr ⟨lw_p36, List.forall_mem_cons.mpr ⟨lw_p37, List.forall_mem_cons.mpr ⟨lw_p38, List.forall_mem_cons.mpr ⟨lw_p39, List.forall_mem_cons.mpr ⟨lw_p40, List.forall_mem_cons.mpr ⟨lw_p41, List.forall_mem_cons.mpr ⟨lw_p42, List.forall_mem_cons.mpr ⟨lw_p43, List.forall_mem_cons.mpr ⟨lw_p44, List.forall_mem_cons.mpr ⟨lw_p45, List.forall_mem_cons.mpr ⟨lw_p46, List.forall_mem_cons.mpr ⟨lw_p47, fun _ h => absurd h List.not_mem_nil⟩⟩⟩⟩⟩⟩⟩⟩⟩⟩⟩⟩⟩⟩⟩⟩
theorem lw_p48 : lw_okq (⟨"AngleNetModel", "isThird", "(I)Z"⟩, 28) := ⟨⟨by decide +kernel, by decide +kernel⟩, List.mem_of_getElem? (i := 1046) (by decide +kernel), List.mem_of_getElem? (i := 1262) (by decide +kernel), List.mem_of_getElem? (i := 1263) (by decide +kernel)⟩
theorem lw_p49 : lw_okq (⟨"AngleNetModel", "at", "(II)I"⟩, 28) := ⟨⟨by decide +kernel, by decide +kernel⟩, List.mem_of_getElem? (i := 1046) (by decide +kernel), List.mem_of_getElem? (i := 1267) (by decide +kernel), List.mem_of_getElem? (i := 1268) (by decide +kernel)⟩
theorem lw_p50 : lw_okq (⟨"AngleNetModel", "isPost", "(I)Z"⟩, 28) := ⟨⟨by decide +kernel, by decide +kernel⟩, List.mem_of_getElem? (i := 1046) (by decide +kernel), List.mem_of_getElem? (i := 1275) (by decide +kernel), List.mem_of_getElem? (i := 1276) (by decide +kernel)⟩
theorem lw_p51 : lw_okq (⟨"AngleNetModel", "of", "(II)I"⟩, 28) := ⟨⟨by decide +kernel, by decide +kernel⟩, List.mem_of_getElem? (i := 1046) (by decide +kernel), List.mem_of_getElem? (i := 1280) (by decide +kernel), List.mem_of_getElem? (i := 1281) (by decide +kernel)⟩
theorem lw_p52 : lw_okq (⟨"AngleNetModel", "thirds", "()I"⟩, 28) := ⟨⟨by decide +kernel, by decide +kernel⟩, List.mem_of_getElem? (i := 1046) (by decide +kernel), List.mem_of_getElem? (i := 1284) (by decide +kernel), List.mem_of_getElem? (i := 1285) (by decide +kernel)⟩
theorem lw_p53 : lw_okq (⟨"AngleNetModel", "isSide", "(II)Z"⟩, 28) := ⟨⟨by decide +kernel, by decide +kernel⟩, List.mem_of_getElem? (i := 1046) (by decide +kernel), List.mem_of_getElem? (i := 1288) (by decide +kernel), List.mem_of_getElem? (i := 1289) (by decide +kernel)⟩
theorem lw_p54 : lw_okq (⟨"AngleNetModel", "many", "(II)I"⟩, 28) := ⟨⟨by decide +kernel, by decide +kernel⟩, List.mem_of_getElem? (i := 1046) (by decide +kernel), List.mem_of_getElem? (i := 1292) (by decide +kernel), List.mem_of_getElem? (i := 1293) (by decide +kernel)⟩
theorem lw_p55 : lw_okq (⟨"AngleNetModel", "areTwo", "(II)Z"⟩, 28) := ⟨⟨by decide +kernel, by decide +kernel⟩, List.mem_of_getElem? (i := 1046) (by decide +kernel), List.mem_of_getElem? (i := 1300) (by decide +kernel), List.mem_of_getElem? (i := 1301) (by decide +kernel)⟩
theorem lw_p56 : lw_okq (⟨"AngleNetModel", "sideAt", "(I)I"⟩, 28) := ⟨⟨by decide +kernel, by decide +kernel⟩, List.mem_of_getElem? (i := 1046) (by decide +kernel), List.mem_of_getElem? (i := 1308) (by decide +kernel), List.mem_of_getElem? (i := 1309) (by decide +kernel)⟩
theorem lw_p57 : lw_okq (⟨"AngleNetModel", "isNet", "()Z"⟩, 28) := ⟨⟨by decide +kernel, by decide +kernel⟩, List.mem_of_getElem? (i := 1046) (by decide +kernel), List.mem_of_getElem? (i := 1316) (by decide +kernel), List.mem_of_getElem? (i := 1317) (by decide +kernel)⟩
theorem lw_p58 : lw_okq (⟨"AngleNetModel", "euler", "()I"⟩, 28) := ⟨⟨by decide +kernel, by decide +kernel⟩, List.mem_of_getElem? (i := 1046) (by decide +kernel), List.mem_of_getElem? (i := 1320) (by decide +kernel), List.mem_of_getElem? (i := 1321) (by decide +kernel)⟩
theorem lw_p59 : lw_okq (⟨"AngleNetModel", "used", "()I"⟩, 28) := ⟨⟨by decide +kernel, by decide +kernel⟩, List.mem_of_getElem? (i := 1046) (by decide +kernel), List.mem_of_getElem? (i := 1324) (by decide +kernel), List.mem_of_getElem? (i := 1325) (by decide +kernel)⟩
theorem lw_p60 : lw_okq (⟨"AngleNetModel", "sidesMany", "()I"⟩, 28) := ⟨⟨by decide +kernel, by decide +kernel⟩, List.mem_of_getElem? (i := 1046) (by decide +kernel), List.mem_of_getElem? (i := 1331) (by decide +kernel), List.mem_of_getElem? (i := 1332) (by decide +kernel)⟩
theorem lw_p61 : lw_okq (⟨"AngleNetModel", "isGood", "()Z"⟩, 28) := ⟨⟨by decide +kernel, by decide +kernel⟩, List.mem_of_getElem? (i := 1046) (by decide +kernel), List.mem_of_getElem? (i := 1335) (by decide +kernel), List.mem_of_getElem? (i := 1336) (by decide +kernel)⟩
theorem lw_p62 : lw_okq (⟨"AngleNetModel", "isGoodAt", "(I)Z"⟩, 28) := ⟨⟨by decide +kernel, by decide +kernel⟩, List.mem_of_getElem? (i := 1046) (by decide +kernel), List.mem_of_getElem? (i := 1339) (by decide +kernel), List.mem_of_getElem? (i := 1340) (by decide +kernel)⟩
theorem lw_p63 : lw_okq (⟨"AngleNetModel", "shareBeside", "(III)Z"⟩, 28) := ⟨⟨by decide +kernel, by decide +kernel⟩, List.mem_of_getElem? (i := 1046) (by decide +kernel), List.mem_of_getElem? (i := 1343) (by decide +kernel), List.mem_of_getElem? (i := 1344) (by decide +kernel)⟩
def lw_privs_4 : List (MethodName × Nat) := [(⟨"AngleNetModel", "isThird", "(I)Z"⟩, 28), (⟨"AngleNetModel", "at", "(II)I"⟩, 28), (⟨"AngleNetModel", "isPost", "(I)Z"⟩, 28), (⟨"AngleNetModel", "of", "(II)I"⟩, 28), (⟨"AngleNetModel", "thirds", "()I"⟩, 28), (⟨"AngleNetModel", "isSide", "(II)Z"⟩, 28), (⟨"AngleNetModel", "many", "(II)I"⟩, 28), (⟨"AngleNetModel", "areTwo", "(II)Z"⟩, 28), (⟨"AngleNetModel", "sideAt", "(I)I"⟩, 28), (⟨"AngleNetModel", "isNet", "()Z"⟩, 28), (⟨"AngleNetModel", "euler", "()I"⟩, 28), (⟨"AngleNetModel", "used", "()I"⟩, 28), (⟨"AngleNetModel", "sidesMany", "()I"⟩, 28), (⟨"AngleNetModel", "isGood", "()Z"⟩, 28), (⟨"AngleNetModel", "isGoodAt", "(I)Z"⟩, 28), (⟨"AngleNetModel", "shareBeside", "(III)Z"⟩, 28)]
theorem lw_r4 : ∀ q ∈ lw_privs_4, lw_okq q := List.forall_mem_cons.mpr ⟨lw_p48, List.forall_mem_cons.mpr ⟨lw_p49, List.forall_mem_cons.mpr ⟨lw_p50, List.forall_mem_cons.mpr ⟨lw_p51, List.forall_mem_cons.mpr ⟨lw_p52, List.forall_mem_cons.mpr ⟨lw_p53, List.forall_mem_cons.mpr ⟨lw_p54, List.forall_mem_cons.mpr ⟨lw_p55, List.forall_mem_cons.mpr ⟨lw_p56, List.forall_mem_cons.mpr ⟨lw_p57, List.forall_mem_cons.mpr ⟨lw_p58, List.forall_mem_cons.mpr ⟨lw_p59, List.forall_mem_cons.mpr ⟨lw_p60, List.forall_mem_cons.mpr ⟨lw_p61, List.forall_mem_cons.mpr ⟨lw_p62, List.forall_mem_cons.mpr ⟨lw_p63, fun _ h => absurd h List.not_mem_nil⟩⟩⟩⟩⟩⟩⟩⟩⟩⟩⟩⟩⟩⟩⟩⟩
theorem lw_p64 : lw_okq (⟨"AngleNetModel", "partsOf", "(IZ)I"⟩, 28) := ⟨⟨by decide +kernel, by decide +kernel⟩, List.mem_of_getElem? (i := 1046) (by decide +kernel), List.mem_of_getElem? (i := 1347) (by decide +kernel), List.mem_of_getElem? (i := 1348) (by decide +kernel)⟩
theorem lw_p65 : lw_okq (⟨"AngleNetModel", "partFrom", "(IZ)I"⟩, 28) := ⟨⟨by decide +kernel, by decide +kernel⟩, List.mem_of_getElem? (i := 1046) (by decide +kernel), List.mem_of_getElem? (i := 1351) (by decide +kernel), List.mem_of_getElem? (i := 1352) (by decide +kernel)⟩
theorem lw_p66 : lw_okq (⟨"AngleNetModel", "isTwoSided", "()Z"⟩, 28) := ⟨⟨by decide +kernel, by decide +kernel⟩, List.mem_of_getElem? (i := 1046) (by decide +kernel), List.mem_of_getElem? (i := 1355) (by decide +kernel), List.mem_of_getElem? (i := 1356) (by decide +kernel)⟩
theorem lw_p67 : lw_okq (⟨"AngleNetModel", "mustTurn", "(II)I"⟩, 28) := ⟨⟨by decide +kernel, by decide +kernel⟩, List.mem_of_getElem? (i := 1046) (by decide +kernel), List.mem_of_getElem? (i := 1359) (by decide +kernel), List.mem_of_getElem? (i := 1360) (by decide +kernel)⟩
theorem lw_p68 : lw_okq (⟨"AngleNetModel", "goesBy", "(III)I"⟩, 28) := ⟨⟨by decide +kernel, by decide +kernel⟩, List.mem_of_getElem? (i := 1046) (by decide +kernel), List.mem_of_getElem? (i := 1363) (by decide +kernel), List.mem_of_getElem? (i := 1364) (by decide +kernel)⟩
theorem lw_p69 : lw_okq (⟨"AngleNetModel", "rimMany", "()I"⟩, 28) := ⟨⟨by decide +kernel, by decide +kernel⟩, List.mem_of_getElem? (i := 1046) (by decide +kernel), List.mem_of_getElem? (i := 1367) (by decide +kernel), List.mem_of_getElem? (i := 1368) (by decide +kernel)⟩
theorem lw_p70 : lw_okq (⟨"AngleNetModel", "rimPosts", "()I"⟩, 28) := ⟨⟨by decide +kernel, by decide +kernel⟩, List.mem_of_getElem? (i := 1046) (by decide +kernel), List.mem_of_getElem? (i := 1371) (by decide +kernel), List.mem_of_getElem? (i := 1372) (by decide +kernel)⟩
theorem lw_p71 : lw_okq (⟨"AngleNetModel", "handles", "()I"⟩, 28) := ⟨⟨by decide +kernel, by decide +kernel⟩, List.mem_of_getElem? (i := 1046) (by decide +kernel), List.mem_of_getElem? (i := 1375) (by decide +kernel), List.mem_of_getElem? (i := 1376) (by decide +kernel)⟩
theorem lw_p72 : lw_okq (⟨"AngleNetModel", "firstBeside", "(I)I"⟩, 28) := ⟨⟨by decide +kernel, by decide +kernel⟩, List.mem_of_getElem? (i := 1046) (by decide +kernel), List.mem_of_getElem? (i := 1383) (by decide +kernel), List.mem_of_getElem? (i := 1384) (by decide +kernel)⟩
theorem lw_p73 : lw_okq (⟨"AngleNetModel", "otherThird", "(III)I"⟩, 28) := ⟨⟨by decide +kernel, by decide +kernel⟩, List.mem_of_getElem? (i := 1046) (by decide +kernel), List.mem_of_getElem? (i := 1387) (by decide +kernel), List.mem_of_getElem? (i := 1388) (by decide +kernel)⟩
theorem lw_p74 : lw_okq (⟨"AngleNetModel", "beyond", "(III)I"⟩, 28) := ⟨⟨by decide +kernel, by decide +kernel⟩, List.mem_of_getElem? (i := 1046) (by decide +kernel), List.mem_of_getElem? (i := 1391) (by decide +kernel), List.mem_of_getElem? (i := 1392) (by decide +kernel)⟩
theorem lw_p75 : lw_okq (⟨"AngleNetModel", "toldPosts", "()I"⟩, 28) := ⟨⟨by decide +kernel, by decide +kernel⟩, List.mem_of_getElem? (i := 1046) (by decide +kernel), List.mem_of_getElem? (i := 1400) (by decide +kernel), List.mem_of_getElem? (i := 1401) (by decide +kernel)⟩
theorem lw_p76 : lw_okq (⟨"AngleNetModel", "anglesOf", "(I)I"⟩, 28) := ⟨⟨by decide +kernel, by decide +kernel⟩, List.mem_of_getElem? (i := 1046) (by decide +kernel), List.mem_of_getElem? (i := 1404) (by decide +kernel), List.mem_of_getElem? (i := 1405) (by decide +kernel)⟩
theorem lw_p77 : lw_okq (⟨"AngleNetModel", "fillBounds", "()V"⟩, 28) := ⟨⟨by decide +kernel, by decide +kernel⟩, List.mem_of_getElem? (i := 1046) (by decide +kernel), List.mem_of_getElem? (i := 1412) (by decide +kernel), List.mem_of_getElem? (i := 1413) (by decide +kernel)⟩
theorem lw_p78 : lw_okq (⟨"AngleNetModel", "canLay", "()Z"⟩, 28) := ⟨⟨by decide +kernel, by decide +kernel⟩, List.mem_of_getElem? (i := 1046) (by decide +kernel), List.mem_of_getElem? (i := 1416) (by decide +kernel), List.mem_of_getElem? (i := 1417) (by decide +kernel)⟩
theorem lw_p79 : lw_okq (⟨"AngleNetModel", "barsBy", "(I)I"⟩, 28) := ⟨⟨by decide +kernel, by decide +kernel⟩, List.mem_of_getElem? (i := 1046) (by decide +kernel), List.mem_of_getElem? (i := 1420) (by decide +kernel), List.mem_of_getElem? (i := 1421) (by decide +kernel)⟩
def lw_privs_5 : List (MethodName × Nat) := [(⟨"AngleNetModel", "partsOf", "(IZ)I"⟩, 28), (⟨"AngleNetModel", "partFrom", "(IZ)I"⟩, 28), (⟨"AngleNetModel", "isTwoSided", "()Z"⟩, 28), (⟨"AngleNetModel", "mustTurn", "(II)I"⟩, 28), (⟨"AngleNetModel", "goesBy", "(III)I"⟩, 28), (⟨"AngleNetModel", "rimMany", "()I"⟩, 28), (⟨"AngleNetModel", "rimPosts", "()I"⟩, 28), (⟨"AngleNetModel", "handles", "()I"⟩, 28), (⟨"AngleNetModel", "firstBeside", "(I)I"⟩, 28), (⟨"AngleNetModel", "otherThird", "(III)I"⟩, 28), (⟨"AngleNetModel", "beyond", "(III)I"⟩, 28), (⟨"AngleNetModel", "toldPosts", "()I"⟩, 28), (⟨"AngleNetModel", "anglesOf", "(I)I"⟩, 28), (⟨"AngleNetModel", "fillBounds", "()V"⟩, 28), (⟨"AngleNetModel", "canLay", "()Z"⟩, 28), (⟨"AngleNetModel", "barsBy", "(I)I"⟩, 28)]
theorem lw_r5 : ∀ q ∈ lw_privs_5, lw_okq q := List.forall_mem_cons.mpr ⟨lw_p64, List.forall_mem_cons.mpr ⟨lw_p65, List.forall_mem_cons.mpr ⟨lw_p66, List.forall_mem_cons.mpr ⟨lw_p67, List.forall_mem_cons.mpr ⟨lw_p68, List.forall_mem_cons.mpr ⟨lw_p69, List.forall_mem_cons.mpr ⟨lw_p70, List.forall_mem_cons.mpr ⟨lw_p71, List.forall_mem_cons.mpr ⟨lw_p72, List.forall_mem_cons.mpr ⟨lw_p73, List.forall_mem_cons.mpr ⟨lw_p74, List.forall_mem_cons.mpr ⟨lw_p75, List.forall_mem_cons.mpr ⟨lw_p76, List.forall_mem_cons.mpr ⟨lw_p77, List.forall_mem_cons.mpr ⟨lw_p78, List.forall_mem_cons.mpr ⟨lw_p79, fun _ h => absurd h List.not_mem_nil⟩⟩⟩⟩⟩⟩⟩⟩⟩⟩⟩⟩⟩⟩⟩⟩
theorem lw_p80 : lw_okq (⟨"AngleNetModel", "mostAt", "(I)I"⟩, 28) := ⟨⟨by decide +kernel, by decide +kernel⟩, List.mem_of_getElem? (i := 1046) (by decide +kernel), List.mem_of_getElem? (i := 1424) (by decide +kernel), List.mem_of_getElem? (i := 1425) (by decide +kernel)⟩
theorem lw_p81 : lw_okq (⟨"AngleNetModel", "leastAt", "(I)I"⟩, 28) := ⟨⟨by decide +kernel, by decide +kernel⟩, List.mem_of_getElem? (i := 1046) (by decide +kernel), List.mem_of_getElem? (i := 1428) (by decide +kernel), List.mem_of_getElem? (i := 1429) (by decide +kernel)⟩
theorem lw_p82 : lw_okq (⟨"AngleNetModel", "barring", "()I"⟩, 28) := ⟨⟨by decide +kernel, by decide +kernel⟩, List.mem_of_getElem? (i := 1046) (by decide +kernel), List.mem_of_getElem? (i := 1437) (by decide +kernel), List.mem_of_getElem? (i := 1438) (by decide +kernel)⟩
theorem lw_p83 : lw_okq (⟨"AngleNetModel", "canBe", "(II)Z"⟩, 28) := ⟨⟨by decide +kernel, by decide +kernel⟩, List.mem_of_getElem? (i := 1046) (by decide +kernel), List.mem_of_getElem? (i := 1445) (by decide +kernel), List.mem_of_getElem? (i := 1446) (by decide +kernel)⟩
theorem lw_p84 : lw_okq (⟨"AngleNetModel", "arePlaced", "(III)Z"⟩, 28) := ⟨⟨by decide +kernel, by decide +kernel⟩, List.mem_of_getElem? (i := 1046) (by decide +kernel), List.mem_of_getElem? (i := 1462) (by decide +kernel), List.mem_of_getElem? (i := 1463) (by decide +kernel)⟩
theorem lw_p85 : lw_okq (⟨"AngleNetModel", "hasPlace", "(I)Z"⟩, 28) := ⟨⟨by decide +kernel, by decide +kernel⟩, List.mem_of_getElem? (i := 1046) (by decide +kernel), List.mem_of_getElem? (i := 1466) (by decide +kernel), List.mem_of_getElem? (i := 1467) (by decide +kernel)⟩
theorem lw_p86 : lw_okq (⟨"AngleNetModel", "turnOf", "(III)I"⟩, 28) := ⟨⟨by decide +kernel, by decide +kernel⟩, List.mem_of_getElem? (i := 1046) (by decide +kernel), List.mem_of_getElem? (i := 1470) (by decide +kernel), List.mem_of_getElem? (i := 1471) (by decide +kernel)⟩
theorem lw_p87 : lw_okq (⟨"AngleNetModel", "insideOf", "(IIII)I"⟩, 28) := ⟨⟨by decide +kernel, by decide +kernel⟩, List.mem_of_getElem? (i := 1046) (by decide +kernel), List.mem_of_getElem? (i := 1478) (by decide +kernel), List.mem_of_getElem? (i := 1479) (by decide +kernel)⟩
theorem lw_p88 : lw_okq (⟨"AngleNetModel", "lifted", "(IIII)J"⟩, 28) := ⟨⟨by decide +kernel, by decide +kernel⟩, List.mem_of_getElem? (i := 1046) (by decide +kernel), List.mem_of_getElem? (i := 1482) (by decide +kernel), List.mem_of_getElem? (i := 1483) (by decide +kernel)⟩
theorem lw_p89 : lw_okq (⟨"AngleNetModel", "mayOf", "(II)I"⟩, 28) := ⟨⟨by decide +kernel, by decide +kernel⟩, List.mem_of_getElem? (i := 1046) (by decide +kernel), List.mem_of_getElem? (i := 1490) (by decide +kernel), List.mem_of_getElem? (i := 1491) (by decide +kernel)⟩
theorem lw_p90 : lw_okq (⟨"AngleNetModel", "mayFlip", "(II)Z"⟩, 28) := ⟨⟨by decide +kernel, by decide +kernel⟩, List.mem_of_getElem? (i := 1046) (by decide +kernel), List.mem_of_getElem? (i := 1494) (by decide +kernel), List.mem_of_getElem? (i := 1495) (by decide +kernel)⟩
theorem lw_p91 : lw_okq (⟨"AngleNetModel", "lesserThird", "(II)I"⟩, 28) := ⟨⟨by decide +kernel, by decide +kernel⟩, List.mem_of_getElem? (i := 1046) (by decide +kernel), List.mem_of_getElem? (i := 1498) (by decide +kernel), List.mem_of_getElem? (i := 1499) (by decide +kernel)⟩
theorem lw_p92 : lw_okq (⟨"AngleNetModel", "turnsSide", "(II)I"⟩, 28) := ⟨⟨by decide +kernel, by decide +kernel⟩, List.mem_of_getElem? (i := 1046) (by decide +kernel), List.mem_of_getElem? (i := 1509) (by decide +kernel), List.mem_of_getElem? (i := 1510) (by decide +kernel)⟩
theorem lw_p93 : lw_okq (⟨"AngleNetModel", "setThird", "(IIIII)V"⟩, 28) := ⟨⟨by decide +kernel, by decide +kernel⟩, List.mem_of_getElem? (i := 1046) (by decide +kernel), List.mem_of_getElem? (i := 1513) (by decide +kernel), List.mem_of_getElem? (i := 1514) (by decide +kernel)⟩
theorem lw_p94 : lw_okq (⟨"AngleNetModel", "setWeight", "(III)V"⟩, 28) := ⟨⟨by decide +kernel, by decide +kernel⟩, List.mem_of_getElem? (i := 1046) (by decide +kernel), List.mem_of_getElem? (i := 1517) (by decide +kernel), List.mem_of_getElem? (i := 1518) (by decide +kernel)⟩
theorem lw_p95 : lw_okq (⟨"AngleNetModel", "illegalSide", "()I"⟩, 28) := ⟨⟨by decide +kernel, by decide +kernel⟩, List.mem_of_getElem? (i := 1046) (by decide +kernel), List.mem_of_getElem? (i := 1525) (by decide +kernel), List.mem_of_getElem? (i := 1526) (by decide +kernel)⟩
def lw_privs_6 : List (MethodName × Nat) := [(⟨"AngleNetModel", "mostAt", "(I)I"⟩, 28), (⟨"AngleNetModel", "leastAt", "(I)I"⟩, 28), (⟨"AngleNetModel", "barring", "()I"⟩, 28), (⟨"AngleNetModel", "canBe", "(II)Z"⟩, 28), (⟨"AngleNetModel", "arePlaced", "(III)Z"⟩, 28), (⟨"AngleNetModel", "hasPlace", "(I)Z"⟩, 28), (⟨"AngleNetModel", "turnOf", "(III)I"⟩, 28), (⟨"AngleNetModel", "insideOf", "(IIII)I"⟩, 28), (⟨"AngleNetModel", "lifted", "(IIII)J"⟩, 28), (⟨"AngleNetModel", "mayOf", "(II)I"⟩, 28), (⟨"AngleNetModel", "mayFlip", "(II)Z"⟩, 28), (⟨"AngleNetModel", "lesserThird", "(II)I"⟩, 28), (⟨"AngleNetModel", "turnsSide", "(II)I"⟩, 28), (⟨"AngleNetModel", "setThird", "(IIIII)V"⟩, 28), (⟨"AngleNetModel", "setWeight", "(III)V"⟩, 28), (⟨"AngleNetModel", "illegalSide", "()I"⟩, 28)]
theorem lw_r6 : ∀ q ∈ lw_privs_6, lw_okq q := List.forall_mem_cons.mpr ⟨lw_p80, List.forall_mem_cons.mpr ⟨lw_p81, List.forall_mem_cons.mpr ⟨lw_p82, List.forall_mem_cons.mpr ⟨lw_p83, List.forall_mem_cons.mpr ⟨lw_p84, List.forall_mem_cons.mpr ⟨lw_p85, List.forall_mem_cons.mpr ⟨lw_p86, List.forall_mem_cons.mpr ⟨lw_p87, List.forall_mem_cons.mpr ⟨lw_p88, List.forall_mem_cons.mpr ⟨lw_p89, List.forall_mem_cons.mpr ⟨lw_p90, List.forall_mem_cons.mpr ⟨lw_p91, List.forall_mem_cons.mpr ⟨lw_p92, List.forall_mem_cons.mpr ⟨lw_p93, List.forall_mem_cons.mpr ⟨lw_p94, List.forall_mem_cons.mpr ⟨lw_p95, fun _ h => absurd h List.not_mem_nil⟩⟩⟩⟩⟩⟩⟩⟩⟩⟩⟩⟩⟩⟩⟩⟩
theorem lw_p96 : lw_okq (⟨"AngleNetModel", "draw", "(I)I"⟩, 28) := ⟨⟨by decide +kernel, by decide +kernel⟩, List.mem_of_getElem? (i := 1046) (by decide +kernel), List.mem_of_getElem? (i := 1549) (by decide +kernel), List.mem_of_getElem? (i := 1550) (by decide +kernel)⟩
theorem lw_p97 : lw_okq (⟨"AngleNetModel", "weightOf", "(II)I"⟩, 28) := ⟨⟨by decide +kernel, by decide +kernel⟩, List.mem_of_getElem? (i := 1046) (by decide +kernel), List.mem_of_getElem? (i := 1562) (by decide +kernel), List.mem_of_getElem? (i := 1563) (by decide +kernel)⟩
theorem lw_p98 : lw_okq (⟨"AngleNetModel", "isBall", "()Z"⟩, 28) := ⟨⟨by decide +kernel, by decide +kernel⟩, List.mem_of_getElem? (i := 1046) (by decide +kernel), List.mem_of_getElem? (i := 1570) (by decide +kernel), List.mem_of_getElem? (i := 1571) (by decide +kernel)⟩
theorem lw_p99 : lw_okq (⟨"AngleNetModel", "badWeight", "()I"⟩, 28) := ⟨⟨by decide +kernel, by decide +kernel⟩, List.mem_of_getElem? (i := 1046) (by decide +kernel), List.mem_of_getElem? (i := 1574) (by decide +kernel), List.mem_of_getElem? (i := 1575) (by decide +kernel)⟩
theorem lw_p100 : lw_okq (⟨"AngleNetModel", "badPost", "()I"⟩, 28) := ⟨⟨by decide +kernel, by decide +kernel⟩, List.mem_of_getElem? (i := 1046) (by decide +kernel), List.mem_of_getElem? (i := 1579) (by decide +kernel), List.mem_of_getElem? (i := 1580) (by decide +kernel)⟩
theorem lw_p101 : lw_okq (⟨"AngleNetModel", "cutOf", "(I)I"⟩, 28) := ⟨⟨by decide +kernel, by decide +kernel⟩, List.mem_of_getElem? (i := 1046) (by decide +kernel), List.mem_of_getElem? (i := 1583) (by decide +kernel), List.mem_of_getElem? (i := 1584) (by decide +kernel)⟩
theorem lw_p102 : lw_okq (⟨"AngleNetModel", "badSet", "()I"⟩, 28) := ⟨⟨by decide +kernel, by decide +kernel⟩, List.mem_of_getElem? (i := 1046) (by decide +kernel), List.mem_of_getElem? (i := 1587) (by decide +kernel), List.mem_of_getElem? (i := 1588) (by decide +kernel)⟩
theorem lw_p103 : lw_okq (⟨"AngleNetModel", "treesOf", "()J"⟩, 28) := ⟨⟨by decide +kernel, by decide +kernel⟩, List.mem_of_getElem? (i := 1046) (by decide +kernel), List.mem_of_getElem? (i := 1603) (by decide +kernel), List.mem_of_getElem? (i := 1604) (by decide +kernel)⟩
theorem lw_p104 : lw_okq (⟨"AngleNetModel", "picksBut", "(I)V"⟩, 28) := ⟨⟨by decide +kernel, by decide +kernel⟩, List.mem_of_getElem? (i := 1046) (by decide +kernel), List.mem_of_getElem? (i := 1607) (by decide +kernel), List.mem_of_getElem? (i := 1608) (by decide +kernel)⟩
theorem lw_p105 : lw_okq (⟨"AngleNetModel", "give", "(II)J"⟩, 28) := ⟨⟨by decide +kernel, by decide +kernel⟩, List.mem_of_getElem? (i := 1046) (by decide +kernel), List.mem_of_getElem? (i := 1611) (by decide +kernel), List.mem_of_getElem? (i := 1612) (by decide +kernel)⟩
theorem lw_p106 : lw_okq (⟨"AngleNetModel", "worth", "(I)J"⟩, 28) := ⟨⟨by decide +kernel, by decide +kernel⟩, List.mem_of_getElem? (i := 1046) (by decide +kernel), List.mem_of_getElem? (i := 1616) (by decide +kernel), List.mem_of_getElem? (i := 1617) (by decide +kernel)⟩
theorem lw_p107 : lw_okq (⟨"AngleNetModel", "trades", "(III)V"⟩, 28) := ⟨⟨by decide +kernel, by decide +kernel⟩, List.mem_of_getElem? (i := 1046) (by decide +kernel), List.mem_of_getElem? (i := 1620) (by decide +kernel), List.mem_of_getElem? (i := 1621) (by decide +kernel)⟩
theorem lw_p108 : lw_okq (⟨"AngleNetModel", "isFlow", "(II)Z"⟩, 28) := ⟨⟨by decide +kernel, by decide +kernel⟩, List.mem_of_getElem? (i := 1046) (by decide +kernel), List.mem_of_getElem? (i := 1629) (by decide +kernel), List.mem_of_getElem? (i := 1630) (by decide +kernel)⟩
theorem lw_p109 : lw_okq (⟨"AngleNetModel", "heightOf", "(III)J"⟩, 28) := ⟨⟨by decide +kernel, by decide +kernel⟩, List.mem_of_getElem? (i := 1046) (by decide +kernel), List.mem_of_getElem? (i := 1633) (by decide +kernel), List.mem_of_getElem? (i := 1634) (by decide +kernel)⟩
theorem lw_p110 : lw_okq (⟨"AngleNetModel", "fillHeights", "(II)V"⟩, 28) := ⟨⟨by decide +kernel, by decide +kernel⟩, List.mem_of_getElem? (i := 1046) (by decide +kernel), List.mem_of_getElem? (i := 1641) (by decide +kernel), List.mem_of_getElem? (i := 1642) (by decide +kernel)⟩
theorem lw_p111 : lw_okq (⟨"AngleNetModel", "flowDivisor", "()J"⟩, 28) := ⟨⟨by decide +kernel, by decide +kernel⟩, List.mem_of_getElem? (i := 1046) (by decide +kernel), List.mem_of_getElem? (i := 1645) (by decide +kernel), List.mem_of_getElem? (i := 1646) (by decide +kernel)⟩
def lw_privs_7 : List (MethodName × Nat) := [(⟨"AngleNetModel", "draw", "(I)I"⟩, 28), (⟨"AngleNetModel", "weightOf", "(II)I"⟩, 28), (⟨"AngleNetModel", "isBall", "()Z"⟩, 28), (⟨"AngleNetModel", "badWeight", "()I"⟩, 28), (⟨"AngleNetModel", "badPost", "()I"⟩, 28), (⟨"AngleNetModel", "cutOf", "(I)I"⟩, 28), (⟨"AngleNetModel", "badSet", "()I"⟩, 28), (⟨"AngleNetModel", "treesOf", "()J"⟩, 28), (⟨"AngleNetModel", "picksBut", "(I)V"⟩, 28), (⟨"AngleNetModel", "give", "(II)J"⟩, 28), (⟨"AngleNetModel", "worth", "(I)J"⟩, 28), (⟨"AngleNetModel", "trades", "(III)V"⟩, 28), (⟨"AngleNetModel", "isFlow", "(II)Z"⟩, 28), (⟨"AngleNetModel", "heightOf", "(III)J"⟩, 28), (⟨"AngleNetModel", "fillHeights", "(II)V"⟩, 28), (⟨"AngleNetModel", "flowDivisor", "()J"⟩, 28)]
theorem lw_r7 : ∀ q ∈ lw_privs_7, lw_okq q := List.forall_mem_cons.mpr ⟨lw_p96, List.forall_mem_cons.mpr ⟨lw_p97, List.forall_mem_cons.mpr ⟨lw_p98, List.forall_mem_cons.mpr ⟨lw_p99, List.forall_mem_cons.mpr ⟨lw_p100, List.forall_mem_cons.mpr ⟨lw_p101, List.forall_mem_cons.mpr ⟨lw_p102, List.forall_mem_cons.mpr ⟨lw_p103, List.forall_mem_cons.mpr ⟨lw_p104, List.forall_mem_cons.mpr ⟨lw_p105, List.forall_mem_cons.mpr ⟨lw_p106, List.forall_mem_cons.mpr ⟨lw_p107, List.forall_mem_cons.mpr ⟨lw_p108, List.forall_mem_cons.mpr ⟨lw_p109, List.forall_mem_cons.mpr ⟨lw_p110, List.forall_mem_cons.mpr ⟨lw_p111, fun _ h => absurd h List.not_mem_nil⟩⟩⟩⟩⟩⟩⟩⟩⟩⟩⟩⟩⟩⟩⟩⟩
theorem lw_p112 : lw_okq (⟨"AngleNetModel", "rootOf", "(I)I"⟩, 28) := ⟨⟨by decide +kernel, by decide +kernel⟩, List.mem_of_getElem? (i := 1046) (by decide +kernel), List.mem_of_getElem? (i := 1662) (by decide +kernel), List.mem_of_getElem? (i := 1663) (by decide +kernel)⟩
theorem lw_p113 : lw_okq (⟨"AngleNetModel", "failsAt", "(I)I"⟩, 28) := ⟨⟨by decide +kernel, by decide +kernel⟩, List.mem_of_getElem? (i := 1046) (by decide +kernel), List.mem_of_getElem? (i := 1682) (by decide +kernel), List.mem_of_getElem? (i := 1683) (by decide +kernel)⟩
theorem lw_p114 : lw_okq (⟨"AngleNetModel", "cornerOf", "(II)J"⟩, 28) := ⟨⟨by decide +kernel, by decide +kernel⟩, List.mem_of_getElem? (i := 1046) (by decide +kernel), List.mem_of_getElem? (i := 1686) (by decide +kernel), List.mem_of_getElem? (i := 1687) (by decide +kernel)⟩
theorem lw_p115 : lw_okq (⟨"AngleNetModel", "placed", "()I"⟩, 28) := ⟨⟨by decide +kernel, by decide +kernel⟩, List.mem_of_getElem? (i := 1046) (by decide +kernel), List.mem_of_getElem? (i := 1696) (by decide +kernel), List.mem_of_getElem? (i := 1697) (by decide +kernel)⟩
def lw_privs_8 : List (MethodName × Nat) := [(⟨"AngleNetModel", "rootOf", "(I)I"⟩, 28), (⟨"AngleNetModel", "failsAt", "(I)I"⟩, 28), (⟨"AngleNetModel", "cornerOf", "(II)J"⟩, 28), (⟨"AngleNetModel", "placed", "()I"⟩, 28)]
theorem lw_r8 : ∀ q ∈ lw_privs_8, lw_okq q := List.forall_mem_cons.mpr ⟨lw_p112, List.forall_mem_cons.mpr ⟨lw_p113, List.forall_mem_cons.mpr ⟨lw_p114, List.forall_mem_cons.mpr ⟨lw_p115, fun _ h => absurd h List.not_mem_nil⟩⟩⟩⟩
def lw_privs : List (MethodName × Nat) := lw_privs_1 ++ (lw_privs_2 ++ (lw_privs_3 ++ (lw_privs_4 ++ (lw_privs_5 ++ (lw_privs_6 ++ (lw_privs_7 ++ (lw_privs_8)))))))
def lw_tbl : List Cond := k2_sels lw_privs ++ tables_1
theorem lw_privs_ok : ∀ q ∈ lw_privs, lw_okq q := by
  show ∀ q ∈ lw_privs_1 ++ (lw_privs_2 ++ (lw_privs_3 ++ (lw_privs_4 ++ (lw_privs_5 ++ (lw_privs_6 ++ (lw_privs_7 ++ (lw_privs_8))))))), lw_okq q
  exact List.forall_mem_append.mpr ⟨lw_r1, List.forall_mem_append.mpr ⟨lw_r2, List.forall_mem_append.mpr ⟨lw_r3, List.forall_mem_append.mpr ⟨lw_r4, List.forall_mem_append.mpr ⟨lw_r5, List.forall_mem_append.mpr ⟨lw_r6, List.forall_mem_append.mpr ⟨lw_r7, lw_r8⟩⟩⟩⟩⟩⟩⟩
end
section
def pv_T0 : u_T := fun k => match k with
  | 0 => ("AngleNet", "tape", "LAngleNet$Tape;", true)
  | 1 => ("AngleNet", "now", "LAngleNet$Net;", true)
  | 2 => ("AngleNet", "thought", "LAngleNet$Net;", true)
  | 3 => ("AngleNet", "images", "[LAngleNet$Net;", true)
  | 4 => ("AngleNet", "kept", "[Z", true)
  | 5 => ("AngleNet", "slots", "[LAngleNet$Row;", true)
  | 6 => ("AngleNet", "shape", "LAngleNet$Shape;", true)
  | 7 => ("AngleNet", "laying", "LAngleNet$Laying;", true)
  | _ => ("AngleNet", "currents", "LAngleNet$Currents;", true)
def pv_t0 : Nat → FieldType := fun k => match k with
  | 0 => .object "AngleNet$Tape"
  | 1 => .object "AngleNet$Net"
  | 2 => .object "AngleNet$Net"
  | 3 => .array (.object "AngleNet$Net")
  | 4 => .array .boolean
  | 5 => .array (.object "AngleNet$Row")
  | 6 => .object "AngleNet$Shape"
  | 7 => .object "AngleNet$Laying"
  | _ => .object "AngleNet$Currents"
theorem pv_n0 : ∀ a, a < 9 → ∀ b, b < 9 → a ≠ b → (pv_T0 a).2.1 ≠ (pv_T0 b).2.1 := by decide +kernel
theorem pv_k0 : ∀ k, k < 9 → parseFieldDescriptor (pv_T0 k).2.2.1 = some (pv_t0 k) := by decide +kernel
theorem pv_w0 : ∀ w ∈ u_ws "AngleNet" pv_T0 9, w ∈ lw_tbl := by decide +kernel
def pv_T1 : u_T := fun k => match k with
  | 0 => ("AngleNet$Tape", "length", "I", false)
  | 1 => ("AngleNet$Tape", "fault", "I", false)
  | 2 => ("AngleNet$Tape", "place", "I", false)
  | 3 => ("AngleNet$Tape", "draft", "LAngleNet$Net;", true)
  | 4 => ("AngleNet$Tape", "bytes", "[B", true)
  | 5 => ("AngleNet$Tape", "start", "I", false)
  | 6 => ("AngleNet$Tape", "stop", "I", false)
  | 7 => ("AngleNet$Tape", "kind", "I", false)
  | 8 => ("AngleNet$Tape", "taken", "I", false)
  | 9 => ("AngleNet$Tape", "takenAt", "I", false)
  | _ => ("AngleNet$Tape", "cornerTold", "Z", false)
def pv_t1 : Nat → FieldType := fun k => match k with
  | 0 => .int
  | 1 => .int
  | 2 => .int
  | 3 => .object "AngleNet$Net"
  | 4 => .array .byte
  | 5 => .int
  | 6 => .int
  | 7 => .int
  | 8 => .int
  | 9 => .int
  | _ => .boolean
theorem pv_n1 : ∀ a, a < 11 → ∀ b, b < 11 → a ≠ b → (pv_T1 a).2.1 ≠ (pv_T1 b).2.1 := by decide +kernel
theorem pv_k1 : ∀ k, k < 11 → parseFieldDescriptor (pv_T1 k).2.2.1 = some (pv_t1 k) := by decide +kernel
theorem pv_w1 : ∀ w ∈ u_ws "AngleNet$Tape" pv_T1 11, w ∈ lw_tbl := by decide +kernel
def pv_T2 : u_T := fun k => match k with
  | 0 => ("AngleNet$Net", "posts", "I", false)
  | 1 => ("AngleNet$Net", "thirds", "I", false)
  | 2 => ("AngleNet$Net", "lines", "I", false)
  | 3 => ("AngleNet$Net", "least", "I", false)
  | 4 => ("AngleNet$Net", "most", "I", false)
  | 5 => ("AngleNet$Net", "corners", "[I", true)
  | 6 => ("AngleNet$Net", "sums", "[I", true)
  | 7 => ("AngleNet$Net", "angles", "[I", true)
  | 8 => ("AngleNet$Net", "xs", "[I", true)
  | 9 => ("AngleNet$Net", "ys", "[I", true)
  | 10 => ("AngleNet$Net", "circles", "[I", true)
  | 11 => ("AngleNet$Net", "weights", "[I", true)
  | 12 => ("AngleNet$Net", "shared", "[I", true)
  | 13 => ("AngleNet$Net", "history", "[I", true)
  | 14 => ("AngleNet$Net", "done", "I", false)
  | _ => ("AngleNet$Net", "remembered", "I", false)
def pv_t2 : Nat → FieldType := fun k => match k with
  | 0 => .int
  | 1 => .int
  | 2 => .int
  | 3 => .int
  | 4 => .int
  | 5 => .array .int
  | 6 => .array .int
  | 7 => .array .int
  | 8 => .array .int
  | 9 => .array .int
  | 10 => .array .int
  | 11 => .array .int
  | 12 => .array .int
  | 13 => .array .int
  | 14 => .int
  | _ => .int
theorem pv_n2 : ∀ a, a < 16 → ∀ b, b < 16 → a ≠ b → (pv_T2 a).2.1 ≠ (pv_T2 b).2.1 := by decide +kernel
theorem pv_k2 : ∀ k, k < 16 → parseFieldDescriptor (pv_T2 k).2.2.1 = some (pv_t2 k) := by decide +kernel
theorem pv_w2 : ∀ w ∈ u_ws "AngleNet$Net" pv_T2 16, w ∈ lw_tbl := by decide +kernel
def pv_T3 : u_T := fun k => match k with
  | 0 => ("AngleNet$Row", "made", "Z", false)
  | 1 => ("AngleNet$Row", "width", "I", false)
  | 2 => ("AngleNet$Row", "length", "I", false)
  | _ => ("AngleNet$Row", "numbers", "[J", true)
def pv_t3 : Nat → FieldType := fun k => match k with
  | 0 => .boolean
  | 1 => .int
  | 2 => .int
  | _ => .array .long
theorem pv_n3 : ∀ a, a < 4 → ∀ b, b < 4 → a ≠ b → (pv_T3 a).2.1 ≠ (pv_T3 b).2.1 := by decide +kernel
theorem pv_k3 : ∀ k, k < 4 → parseFieldDescriptor (pv_T3 k).2.2.1 = some (pv_t3 k) := by decide +kernel
theorem pv_w3 : ∀ w ∈ u_ws "AngleNet$Row" pv_T3 4, w ∈ lw_tbl := by decide +kernel
def pv_T4 : u_T := fun k => match k with
  | 0 => ("AngleNet$Shape", "turned", "[I", true)
  | _ => ("AngleNet$Shape", "queue", "[I", true)
def pv_t4 : Nat → FieldType := fun k => match k with
  | 0 => .array .int
  | _ => .array .int
theorem pv_n4 : ∀ a, a < 2 → ∀ b, b < 2 → a ≠ b → (pv_T4 a).2.1 ≠ (pv_T4 b).2.1 := by decide +kernel
theorem pv_k4 : ∀ k, k < 2 → parseFieldDescriptor (pv_T4 k).2.2.1 = some (pv_t4 k) := by decide +kernel
theorem pv_w4 : ∀ w ∈ u_ws "AngleNet$Shape" pv_T4 2, w ∈ lw_tbl := by decide +kernel
def pv_T5 : u_T := fun k => match k with
  | 0 => ("AngleNet$Laying", "members", "[I", true)
  | 1 => ("AngleNet$Laying", "postsOf", "[I", true)
  | 2 => ("AngleNet$Laying", "cornersIn", "[I", true)
  | 3 => ("AngleNet$Laying", "size", "I", false)
  | 4 => ("AngleNet$Laying", "set", "I", false)
  | 5 => ("AngleNet$Laying", "most", "I", false)
  | 6 => ("AngleNet$Laying", "least", "I", false)
  | _ => ("AngleNet$Laying", "asked", "I", false)
def pv_t5 : Nat → FieldType := fun k => match k with
  | 0 => .array .int
  | 1 => .array .int
  | 2 => .array .int
  | 3 => .int
  | 4 => .int
  | 5 => .int
  | 6 => .int
  | _ => .int
theorem pv_n5 : ∀ a, a < 8 → ∀ b, b < 8 → a ≠ b → (pv_T5 a).2.1 ≠ (pv_T5 b).2.1 := by decide +kernel
theorem pv_k5 : ∀ k, k < 8 → parseFieldDescriptor (pv_T5 k).2.2.1 = some (pv_t5 k) := by decide +kernel
theorem pv_w5 : ∀ w ∈ u_ws "AngleNet$Laying" pv_T5 8, w ∈ lw_tbl := by decide +kernel
def pv_T6 : u_T := fun k => match k with
  | 0 => ("AngleNet$Currents", "heights", "[J", true)
  | 1 => ("AngleNet$Currents", "cells", "[J", true)
  | 2 => ("AngleNet$Currents", "postOf", "[I", true)
  | _ => ("AngleNet$Currents", "size", "I", false)
def pv_t6 : Nat → FieldType := fun k => match k with
  | 0 => .array .long
  | 1 => .array .long
  | 2 => .array .int
  | _ => .int
theorem pv_n6 : ∀ a, a < 4 → ∀ b, b < 4 → a ≠ b → (pv_T6 a).2.1 ≠ (pv_T6 b).2.1 := by decide +kernel
theorem pv_k6 : ∀ k, k < 4 → parseFieldDescriptor (pv_T6 k).2.2.1 = some (pv_t6 k) := by decide +kernel
theorem pv_w6 : ∀ w ∈ u_ws "AngleNet$Currents" pv_T6 4, w ∈ lw_tbl := by decide +kernel
def pv_T7 : u_T := fun k => match k with
  | 0 => ("AngleNetModel", "thrown", "I", false)
  | 1 => ("AngleNetModel", "world", "[I", true)
  | 2 => ("AngleNetModel", "images", "[I", true)
  | 3 => ("AngleNetModel", "hasImage", "[Z", true)
  | 4 => ("AngleNetModel", "tape", "[B", true)
  | 5 => ("AngleNetModel", "taped", "I", false)
  | 6 => ("AngleNetModel", "five", "[I", true)
  | 7 => ("AngleNetModel", "size", "I", false)
  | 8 => ("AngleNetModel", "at", "I", false)
  | 9 => ("AngleNetModel", "from", "I", false)
  | 10 => ("AngleNetModel", "token", "I", false)
  | 11 => ("AngleNetModel", "value", "I", false)
  | 12 => ("AngleNetModel", "faultKind", "I", false)
  | 13 => ("AngleNetModel", "faultPlace", "I", false)
  | 14 => ("AngleNetModel", "fresh", "[I", true)
  | 15 => ("AngleNetModel", "turned", "[I", true)
  | 16 => ("AngleNetModel", "low", "[I", true)
  | 17 => ("AngleNetModel", "high", "[I", true)
  | 18 => ("AngleNetModel", "drawn", "J", false)
  | 19 => ("AngleNetModel", "rows", "[J", true)
  | 20 => ("AngleNetModel", "picked", "[I", true)
  | 21 => ("AngleNetModel", "pickedMany", "I", false)
  | 22 => ("AngleNetModel", "heights", "[J", true)
  | 23 => ("AngleNetModel", "kept", "[I", true)
  | 24 => ("AngleNetModel", "many", "[I", true)
  | 25 => ("AngleNetModel", "width", "[I", true)
  | 26 => ("AngleNetModel", "numbers", "[J", true)
  | _ => ("AngleNetModel", "moving", "[J", true)
def pv_t7 : Nat → FieldType := fun k => match k with
  | 0 => .int
  | 1 => .array .int
  | 2 => .array .int
  | 3 => .array .boolean
  | 4 => .array .byte
  | 5 => .int
  | 6 => .array .int
  | 7 => .int
  | 8 => .int
  | 9 => .int
  | 10 => .int
  | 11 => .int
  | 12 => .int
  | 13 => .int
  | 14 => .array .int
  | 15 => .array .int
  | 16 => .array .int
  | 17 => .array .int
  | 18 => .long
  | 19 => .array .long
  | 20 => .array .int
  | 21 => .int
  | 22 => .array .long
  | 23 => .array .int
  | 24 => .array .int
  | 25 => .array .int
  | 26 => .array .long
  | _ => .array .long
theorem pv_n7 : ∀ a, a < 28 → ∀ b, b < 28 → a ≠ b → (pv_T7 a).2.1 ≠ (pv_T7 b).2.1 := by decide +kernel
theorem pv_k7 : ∀ k, k < 28 → parseFieldDescriptor (pv_T7 k).2.2.1 = some (pv_t7 k) := by decide +kernel
theorem pv_w7 : ∀ w ∈ u_ws "AngleNetModel" pv_T7 28, w ∈ lw_tbl := by decide +kernel
abbrev pv_cls : List vw_C := [("AngleNet", pv_T0, 9), ("AngleNet$Tape", pv_T1, 11), ("AngleNet$Net", pv_T2, 16), ("AngleNet$Row", pv_T3, 4), ("AngleNet$Shape", pv_T4, 2), ("AngleNet$Laying", pv_T5, 8), ("AngleNet$Currents", pv_T6, 4), ("AngleNetModel", pv_T7, 28)]
theorem pv_clsok : ∀ (ci : Nat) (q : vw_C), pv_cls[ci]? = some q → (∀ w ∈ u_ws q.1 q.2.1 q.2.2, w ∈ lw_tbl) ∧ (∀ a, a < q.2.2 → ∀ b, b < q.2.2 → a ≠ b → (q.2.1 a).2.1 ≠ (q.2.1 b).2.1) ∧ ∃ ty : Nat → FieldType, ∀ k, k < q.2.2 → parseFieldDescriptor (q.2.1 k).2.2.1 = some (ty k) := by
  intro ci q h
  match ci, h with
  | 0, h => cases h; exact ⟨pv_w0, pv_n0, pv_t0, pv_k0⟩
  | 1, h => cases h; exact ⟨pv_w1, pv_n1, pv_t1, pv_k1⟩
  | 2, h => cases h; exact ⟨pv_w2, pv_n2, pv_t2, pv_k2⟩
  | 3, h => cases h; exact ⟨pv_w3, pv_n3, pv_t3, pv_k3⟩
  | 4, h => cases h; exact ⟨pv_w4, pv_n4, pv_t4, pv_k4⟩
  | 5, h => cases h; exact ⟨pv_w5, pv_n5, pv_t5, pv_k5⟩
  | 6, h => cases h; exact ⟨pv_w6, pv_n6, pv_t6, pv_k6⟩
  | 7, h => cases h; exact ⟨pv_w7, pv_n7, pv_t7, pv_k7⟩
  | n + 8, h => simp [pv_cls] at h
/-- the room that each method needs: frames, words of locals -/
def pv_rms : List (Nat × Nat) := [(3, 60), (0, 0), (2, 40), (1, 20), (1, 20), (1, 20), (1, 20), (1, 20), (1, 22), (0, 0), (0, 0), (10, 221), (9, 200), (1, 23), (0, 0), (0, 0), (1, 20), (0, 0), (0, 0), (8, 179), (5, 110), (1, 20), (0, 0), (4, 85), (0, 0), (2, 43), (1, 22), (0, 0), (3, 64), (2, 43), (0, 0), (1, 20), (3, 62), (2, 40), (0, 0), (0, 0), (0, 0), (7, 156), (3, 62), (1, 21), (0, 0), (6, 132), (1, 25), (0, 0), (4, 82), (6, 132), (4, 82), (1, 21), (0, 0), (0, 0), (4, 82), (4, 82), (1, 60), (0, 0), (1, 21), (0, 0), (3, 66), (2, 43), (1, 21), (2, 43), (1, 21), (3, 67), (2, 43), (6, 136), (0, 0), (4, 88), (1, 21), (0, 0), (3, 66), (4, 93), (3, 66), (2, 47), (1, 21), (3, 76), (2, 49), (1, 24), (0, 0), (0, 0), (3, 66), (2, 43), (1, 21), (4, 90), (3, 66), (5, 115), (5, 115), (3, 79), (2, 43), (2, 55), (1, 30), (0, 0), (1, 21), (3, 66), (5, 126), (4, 102), (0, 0), (2, 52), (1, 30), (0, 0), (1, 30), (3, 77), (2, 52), (0, 0), (1, 20), (5, 126), (5, 129), (4, 102), (2, 52), (2, 52), (1, 21), (5, 129), (4, 102), (2, 42), (1, 21), (0, 0), (3, 65), (1, 26), (0, 0), (0, 0), (4, 106), (3, 79), (2, 55), (1, 23), (5, 134), (4, 111), (3, 82), (1, 60), (1, 25), (5, 128), (4, 106), (5, 134), (4, 94), (3, 72), (2, 50), (5, 132), (4, 111), (5, 134), (2, 43), (6, 136), (5, 115), (2, 43), (1, 24), (0, 0), (2, 42), (0, 0), (6, 136), (1, 24), (5, 119), (4, 92), (0, 0), (3, 66), (1, 31), (0, 0), (5, 119), (2, 47), (5, 119), (2, 43), (0, 0), (0, 0), (2, 43), (5, 119), (1, 29), (0, 0), (0, 0), (1, 29), (5, 135), (0, 0), (4, 111), (1, 28), (0, 0), (0, 0), (0, 0), (4, 88), (0, 0), (0, 0), (2, 81), (2, 81), (2, 46), (1, 24), (1, 23), (0, 0), (1, 60), (0, 0), (1, 20), (1, 25), (0, 0), (1, 25), (0, 0), (1, 25), (0, 0), (12, 261), (1, 30), (0, 0), (0, 0), (11, 241), (8, 176), (7, 155), (6, 133), (5, 110), (1, 20), (2, 51), (10, 219), (7, 155), (3, 74), (4, 94), (1, 22), (0, 0), (1, 22), (9, 199), (4, 94), (4, 94), (2, 46), (1, 25), (0, 0), (4, 90), (1, 25), (0, 0), (0, 0), (3, 68), (2, 46), (3, 68), (2, 46), (5, 114), (4, 90), (7, 154), (0, 0), (5, 113), (1, 22), (0, 0), (4, 90), (3, 72), (2, 46), (1, 22), (4, 95), (3, 68), (3, 70), (2, 46), (1, 22), (3, 68), (3, 68), (6, 133), (5, 113), (4, 90), (2, 45), (1, 22), (2, 45), (1, 22), (1, 22), (4, 100), (1, 20), (3, 78), (2, 56), (1, 30), (1, 30), (4, 101), (3, 78), (5, 122), (4, 100), (2, 46), (3, 78), (4, 90), (3, 67), (2, 46), (1, 22), (4, 100), (3, 73), (2, 45), (6, 142), (5, 114), (4, 90), (1, 22), (0, 0), (5, 114), (3, 70), (0, 0), (0, 0), (7, 164), (6, 142), (7, 164), (1, 25), (4, 100), (6, 136), (0, 0), (4, 90), (0, 0), (7, 153), (6, 133), (5, 114), (5, 114), (4, 90), (5, 114), (7, 153), (5, 114), (6, 142), (5, 120), (2, 44), (4, 90), (1, 26), (0, 0), (6, 143), (5, 120), (5, 115), (7, 163), (6, 140), (4, 90), (0, 0), (7, 163), (2, 57), (1, 22), (2, 57), (6, 136), (1, 25), (2, 53), (1, 25), (0, 0), (5, 113), (3, 67), (2, 45), (2, 45), (0, 0), (2, 45)]
end
section
/-! THE PURE MACHINE: the bytecode of the system run on plain data (locals by number, a stack, cells by address); the rows behind it say that the real machine does the same. -/
abbrev pv_F : Type := Nat → Option Value
def pv_up1 (f : pv_F) (i : Nat) (v : Value) : pv_F := fun j => if j = i then some v else match f j with
  | some w => if j + 1 = i ∧ w.category = 2 then none else some w
  | none => none
def pv_up2 (f : pv_F) (i : Nat) (v : Value) : pv_F := fun j => if j = i then some v else if j = i + 1 then none else match f j with
  | some w => if j + 1 = i ∧ w.category = 2 then none else some w
  | none => none
/-- locals as a list -/
def pv_fl (l : List (Option Value)) : pv_F := fun i => match l[i]? with
  | some o => o
  | none => none
def pv_es : List Value → List (Option Value)
  | [] => []
  | v :: vs => if v.category = 2 then some v :: none :: pv_es vs else some v :: pv_es vs
def pv_en (as : List Value) : pv_F := pv_fl (pv_es as)
/-- a cell: an array (kind of its class, length, contents) or an object (number of its class, fields) -/
abbrev pv_E : Type := (Nat × vp_A) ⊕ (Nat × List Value)
abbrev pv_H : Type := Nat → Option pv_E
def pv_set (h : pv_H) (a : Nat) (e : pv_E) : pv_H := fun b => if b = a then some e else h b
/-- the methods: the tables' code words, in their order -/
def pv_ms : List (MethodName × ByteArray × Nat × Option FieldType) := tables_1.filterMap fun w => match w with
  | .code y c n r => some (y, c, n, r)
  | _ => none
def pv_y (M : Nat) : MethodName := match pv_ms[M]? with
  | some q => q.1
  | none => ⟨"", "", ""⟩
def pv_bc (M : Nat) : ByteArray := match pv_ms[M]? with
  | some q => q.2.1
  | none => ⟨#[]⟩
def pv_mL (M : Nat) : Nat := match pv_ms[M]? with
  | some q => q.2.2.1
  | none => 0
def pv_rt (M : Nat) : Option FieldType := match pv_ms[M]? with
  | some q => q.2.2.2
  | none => none
def pv_own (M : Nat) : String := (pv_y M).cls
def pv_dec (M pc : Nat) : Option (Instr × Nat) := match decode (pv_bc M) pc with
  | .ok q => some q
  | .error _ => none
/-- what length an instruction has that we take -/
def pv_ln (i : Instr) (len : Nat) : Bool := match i with
  | .bipush _ => len == 2
  | .iload _ => len == 2
  | .lload _ => len == 2
  | .aload _ => len == 2
  | .istore _ => len == 2
  | .lstore _ => len == 2
  | .astore _ => len == 2
  | .ldc _ => len == 2
  | .sipush _ => len == 3
  | .iinc _ _ => len == 3
  | .ifCond _ _ => len == 3
  | .if_icmp _ _ => len == 3
  | .goto _ => len == 3
  | .getfield _ => len == 3
  | .putfield _ => len == 3
  | .invokevirtual _ => len == 3
  | .invokestatic _ => len == 3
  | .ldc_w _ => len == 3
  | .ldc2_w _ => len == 3
  | .tableswitch _ _ _ _ => true
  | .lookupswitch _ _ => true
  | _ => len == 1
def pv_tg (pc : Nat) (off : Int) : Option Nat := match (pc : Int) + off with
  | .ofNat t => some t
  | .negSucc _ => none
def pv_cb (c : ClassFile.Cond) (x y : Int32) : Bool := match c with
  | .eq => decide (x = y)
  | .ne => decide (¬ x = y)
  | .lt => decide (x < y)
  | .ge => decide (y ≤ x)
  | .gt => decide (y < x)
  | .le => decide (x ≤ y)

/-- one step without a cell: where it goes on, the locals, the stack -/
def pv_sp (nL pc : Nat) (f : pv_F) (i : Instr) (st : List Value) : Option (Nat × pv_F × List Value) := match i with
  | .iconst n => some (pc + 1, f, .int (Int32.ofInt n) :: st)
  | .bipush n => some (pc + 2, f, .int (Int8.ofInt n).toInt32 :: st)
  | .sipush n => some (pc + 3, f, .int (Int16.ofInt n).toInt32 :: st)
  | .lconst n => some (pc + 1, f, .long (Int64.ofNat (n : Nat)) :: st)
  | .iload_n k => match f k with
    | some (.int x) => some (pc + 1, f, .int x :: st)
    | _ => none
  | .iload k => match f k with
    | some (.int x) => some (pc + 2, f, .int x :: st)
    | _ => none
  | .lload_n k => match f k with
    | some (.long x) => some (pc + 1, f, .long x :: st)
    | _ => none
  | .lload k => match f k with
    | some (.long x) => some (pc + 2, f, .long x :: st)
    | _ => none
  | .aload_n k => match f k with
    | some (.ref x) => some (pc + 1, f, .ref x :: st)
    | _ => none
  | .aload k => match f k with
    | some (.ref x) => some (pc + 2, f, .ref x :: st)
    | _ => none
  | .istore_n k => match st with
    | .int x :: r => if (k : Nat) < nL then some (pc + 1, pv_up1 f k (.int x), r) else none
    | _ => none
  | .istore k => match st with
    | .int x :: r => if k < nL then some (pc + 2, pv_up1 f k (.int x), r) else none
    | _ => none
  | .lstore_n k => match st with
    | .long x :: r => if (k : Nat) + 1 < nL then some (pc + 1, pv_up2 f k (.long x), r) else none
    | _ => none
  | .lstore k => match st with
    | .long x :: r => if k + 1 < nL then some (pc + 2, pv_up2 f k (.long x), r) else none
    | _ => none
  | .astore_n k => match st with
    | .ref x :: r => if (k : Nat) < nL then some (pc + 1, pv_up1 f k (.ref x), r) else none
    | _ => none
  | .astore k => match st with
    | .ref x :: r => if k < nL then some (pc + 2, pv_up1 f k (.ref x), r) else none
    | _ => none
  | .iinc k n => match f k with
    | some (.int x) => if k < nL then some (pc + 3, pv_up1 f k (.int (x + Int32.ofInt n)), st) else none
    | _ => none
  | .iadd => match st with
    | .int y :: .int x :: r => some (pc + 1, f, .int (x + y) :: r)
    | _ => none
  | .isub => match st with
    | .int y :: .int x :: r => some (pc + 1, f, .int (x - y) :: r)
    | _ => none
  | .imul => match st with
    | .int y :: .int x :: r => some (pc + 1, f, .int (x * y) :: r)
    | _ => none
  | .iand => match st with
    | .int y :: .int x :: r => some (pc + 1, f, .int (x &&& y) :: r)
    | _ => none
  | .ior => match st with
    | .int y :: .int x :: r => some (pc + 1, f, .int (x ||| y) :: r)
    | _ => none
  | .ixor => match st with
    | .int y :: .int x :: r => some (pc + 1, f, .int (x ^^^ y) :: r)
    | _ => none
  | .ishl => match st with
    | .int y :: .int x :: r => some (pc + 1, f, .int (x <<< (y &&& 31)) :: r)
    | _ => none
  | .ishr => match st with
    | .int y :: .int x :: r => some (pc + 1, f, .int (x >>> (y &&& 31)) :: r)
    | _ => none
  | .iushr => match st with
    | .int y :: .int x :: r => some (pc + 1, f, .int (x.toUInt32 >>> (y.toUInt32 &&& Int32.toUInt32 31)).toInt32 :: r)
    | _ => none
  | .idiv => match st with
    | .int y :: .int x :: r => if y = 0 then none else some (pc + 1, f, .int (x / y) :: r)
    | _ => none
  | .irem => match st with
    | .int y :: .int x :: r => if y = 0 then none else some (pc + 1, f, .int (x - x / y * y) :: r)
    | _ => none
  | .ineg => match st with
    | .int x :: r => some (pc + 1, f, .int (-x) :: r)
    | _ => none
  | .ladd => match st with
    | .long y :: .long x :: r => some (pc + 1, f, .long (x + y) :: r)
    | _ => none
  | .lsub => match st with
    | .long y :: .long x :: r => some (pc + 1, f, .long (x - y) :: r)
    | _ => none
  | .lmul => match st with
    | .long y :: .long x :: r => some (pc + 1, f, .long (x * y) :: r)
    | _ => none
  | .land => match st with
    | .long y :: .long x :: r => some (pc + 1, f, .long (x &&& y) :: r)
    | _ => none
  | .lor => match st with
    | .long y :: .long x :: r => some (pc + 1, f, .long (x ||| y) :: r)
    | _ => none
  | .lneg => match st with
    | .long x :: r => some (pc + 1, f, .long (-x) :: r)
    | _ => none
  | .lshl => match st with
    | .int y :: .long x :: r => some (pc + 1, f, .long (x <<< (y.toInt64 &&& 63)) :: r)
    | _ => none
  | .lshr => match st with
    | .int y :: .long x :: r => some (pc + 1, f, .long (x >>> (y.toInt64 &&& 63)) :: r)
    | _ => none
  | .ldiv => match st with
    | .long y :: .long x :: r => if y = 0 then none else some (pc + 1, f, .long (x / y) :: r)
    | _ => none
  | .lrem => match st with
    | .long y :: .long x :: r => if y = 0 then none else some (pc + 1, f, .long (x - x / y * y) :: r)
    | _ => none
  | .lcmp => match st with
    | .long y :: .long x :: r => some (pc + 1, f, .int (lg_cmp x y) :: r)
    | _ => none
  | .i2l => match st with
    | .int x :: r => some (pc + 1, f, .long x.toInt64 :: r)
    | _ => none
  | .l2i => match st with
    | .long x :: r => some (pc + 1, f, .int x.toInt32 :: r)
    | _ => none
  | .i2b => match st with
    | .int x :: r => some (pc + 1, f, .int x.toInt8.toInt32 :: r)
    | _ => none
  | .i2s => match st with
    | .int x :: r => some (pc + 1, f, .int x.toInt16.toInt32 :: r)
    | _ => none
  | .dup => match st with
    | v :: r => if v.category = 1 then some (pc + 1, f, v :: v :: r) else none
    | _ => none
  | .dup2 => match st with
    | v :: w :: r => if v.category = 1 ∧ w.category = 1 then some (pc + 1, f, v :: w :: v :: w :: r) else none
    | _ => none
  | .pop => match st with
    | v :: r => if v.category = 1 then some (pc + 1, f, r) else none
    | _ => none
  | .pop2 => match st with
    | v :: r => if v.category = 2 then some (pc + 1, f, r) else none
    | _ => none
  | .goto o => match pv_tg pc o with
    | some t => some (t, f, st)
    | none => none
  | .ifCond c o => match st with
    | .int x :: r => match pv_tg pc o with
      | some t => if pv_cb c x 0 = true then some (t, f, r) else some (pc + 3, f, r)
      | none => none
    | _ => none
  | .if_icmp c o => match st with
    | .int y :: .int x :: r => match pv_tg pc o with
      | some t => if pv_cb c x y = true then some (t, f, r) else some (pc + 3, f, r)
      | none => none
    | _ => none
  | .tableswitch d lo hi os => match st with
    | .int x :: r => if x.toInt < lo ∨ hi < x.toInt then (match pv_tg pc d with
        | some t => some (t, f, r)
        | none => none) else (match os[(x.toInt - lo).toNat]? with
        | some o => (match pv_tg pc o with
          | some t => some (t, f, r)
          | none => none)
        | none => none)
    | _ => none
  | .lookupswitch d ps => match st with
    | .int x :: r => if (ps.toList.zip (ps.toList.drop 1)).all (fun (a, next) => a.1 < next.1) = true then (match pv_tg pc (Op.lookupswitch.offset ps.toList d x.toInt) with
        | some t => some (t, f, r)
        | none => none) else none
    | _ => none
  | _ => none
/-- the kinds of arrays -/
def pv_tys (dA : Nat → ClassId) : List (ClassId × FieldType) := [(dA 0, .int), (dA 1, .long), (dA 2, .byte), (dA 3, .boolean), (dA 4, .object "AngleNet$Net"), (dA 5, .object "AngleNet$Row")]
def pv_find (C : String) : Option Nat := (List.range 8).find? fun i => decide ((pv_cls.map fun q => q.1)[i]? = some C)
/-- a field by its entry: number of its class, its place -/
def pv_gf (M idx : Nat) : Option (Nat × Nat) := lw_tbl.findSome? fun w => match w with
  | .fieldLink o i r n d => if o = pv_own M ∧ i = idx then (pv_find r).bind fun ci => match pv_cls[ci]? with
      | some q => ((List.range q.2.2).find? fun k => decide (q.2.1 k = (r, n, d, (q.2.1 k).2.2.2))).map fun k => (ci, k)
      | none => none
    else none
  | _ => none
def pv_kc (M idx : Nat) : Option Int32 := lw_tbl.findSome? fun w => match w with
  | .constant o i v => if o = pv_own M ∧ i = idx then some v else none
  | _ => none
def pv_kd (M idx : Nat) : Option Int64 := lw_tbl.findSome? fun w => match w with
  | .constantLong o i v => if o = pv_own M ∧ i = idx then some v else none
  | _ => none
def pv_tx : List String := ["posts", "third", "angle", "corner", "weight", "place", "circle", "sum", "to"]
def pv_len : List Nat := [5, 5, 5, 6, 6, 5, 6, 3, 2]
def pv_byt : List (List Int32) := [[112, 111, 115, 116, 115], [116, 104, 105, 114, 100], [97, 110, 103, 108, 101], [99, 111, 114, 110, 101, 114], [119, 101, 105, 103, 104, 116], [112, 108, 97, 99, 101], [99, 105, 114, 99, 108, 101], [115, 117, 109], [116, 111]]
def pv_ks (M idx : Nat) : Option Nat := lw_tbl.findSome? fun w => match w with
  | .stringRef o i t => if o = pv_own M ∧ i = idx then (List.range 9).find? (fun k => decide (pv_tx[k]? = some t)) else none
  | _ => none
def pv_si (K : Nat → Nat) (b : Nat) : Option Nat := (List.range 9).find? fun i => decide (K i = b)
abbrev pv_cpn : MethodName := arraycopyName
def pv_sln : MethodName := ⟨"java/lang/String", "length", "()I"⟩
def pv_scn : MethodName := ⟨"java/lang/String", "charAt", "(I)C"⟩
/-- a method by its entry: its name, and the nest's host if it is a nest mate's -/
def pv_ml (M idx : Nat) : Option (MethodName × Option String) := lw_tbl.findSome? fun w => match w with
  | .methodLink o i y => if o = pv_own M ∧ i = idx then some (y, none) else none
  | .methodLinkNest o i y s => if o = pv_own M ∧ i = idx then some (y, some s) else none
  | _ => none
def pv_ix (y : MethodName) : Option Nat := pv_ms.findIdx? fun q => decide (q.1 = y)
def pv_np (M : Nat) : Nat := match parseMethodDescriptor (pv_y M).desc with
  | some sig => sig.parameters.length
  | none => 0
def pv_fr (M : Nat) : Nat := (pv_rms.getD M (0, 0)).1
def pv_lo (M : Nat) : Nat := (pv_rms.getD M (0, 0)).2
/-- what must be so of a call of M' in M -/
def pv_okB (M M' : Nat) : Bool := decide ((pv_y M').cls ≠ "java/lang/invoke/MethodHandle") && decide ((pv_y M').cls ≠ "java/lang/invoke/VarHandle") && decide ((parseMethodDescriptor (pv_y M').desc).map (fun d => d.parameters.length) = some (pv_np M')) && decide (pv_fr M' + 1 ≤ pv_fr M) && decide (8 + (pv_mL M' + 11) + pv_lo M' ≤ pv_lo M) && plainName (pv_y M').cls && decide (Cond.initialized (pv_y M').cls ∈ lw_tbl) && decide (M' < pv_ms.length)
def pv_okV (M M' : Nat) : Bool := pv_okB M M' && decide (Cond.instanceMethod (pv_y M') ∈ lw_tbl) && decide (Cond.selects (pv_y M').cls (pv_y M') (pv_y M') ∈ lw_tbl)
def pv_okS (M M' : Nat) : Bool := pv_okB M M' && decide (Cond.static (pv_y M') ∈ lw_tbl)
def pv_okC (M : Nat) : Bool := decide (Cond.native pv_cpn ∈ lw_tbl) && decide (Cond.static pv_cpn ∈ lw_tbl) && decide (Cond.initialized "java/lang/System" ∈ lw_tbl) && decide (1 ≤ pv_fr M) && decide (60 ≤ pv_lo M)
def pv_okM (M : Nat) (y : MethodName) (cd : ByteArray) (n : Nat) (r : Option FieldType) : Bool := decide (Cond.static y ∈ lw_tbl) && decide (Cond.initialized "java/lang/Math" ∈ lw_tbl) && decide (Cond.code y cd n r ∈ lw_tbl) && decide (1 ≤ pv_fr M) && decide (30 ≤ pv_lo M)
def pv_okL (M : Nat) : Bool := decide (5 ≤ pv_fr M) && decide (110 ≤ pv_lo M)
/-- a call: the method, its arguments, what is left on the stack -/
def pv_cs (M : Nat) (i : Instr) (st : List Value) (h : pv_H) : Option (Nat × List Value × List Value) := match i with
  | .invokevirtual idx => match pv_ml M idx with
    | some (y, none) => match pv_ix y with
      | some M' => match st.drop (pv_np M') with
        | .ref b :: r => match h b with
          | some (.inr (ci, _)) => if pv_find (pv_own M') = some ci ∧ pv_okV M M' = true ∧ (r.map fun v => v.category).sum ≤ 8 ∧ (st.take (pv_np M')).length = pv_np M' ∧ (lg_sl (.ref b :: (st.take (pv_np M')).reverse)).length ≤ pv_mL M' then some (M', .ref b :: (st.take (pv_np M')).reverse, r) else none
          | _ => none
        | _ => none
      | none => none
    | _ => none
  | .invokestatic idx => match pv_ml M idx with
    | some (y, _) => match pv_ix y with
      | some M' => if pv_okS M M' = true ∧ ((st.drop (pv_np M')).map fun v => v.category).sum ≤ 8 ∧ (st.take (pv_np M')).length = pv_np M' ∧ (lg_sl (st.take (pv_np M')).reverse).length ≤ pv_mL M' then some (M', (st.take (pv_np M')).reverse, st.drop (pv_np M')) else none
      | none => none
    | none => none
  | _ => none
/-- a return -/
def pv_re (M : Nat) (i : Instr) (st : List Value) : Option (Option Value) := match i with
  | .ireturn => match st with
    | [.int v] => if pv_rt M = some .int then some (some (.int v)) else if pv_rt M = some .boolean ∧ narrow .boolean (.int v) = .int v then some (some (.int v)) else none
    | _ => none
  | .lreturn => match st with
    | [.long v] => if pv_rt M = some .long then some (some (.long v)) else none
    | _ => none
  | .return_ => match st with
    | [] => if pv_rt M = none then some none else none
    | _ => none
  | _ => none
def pv_in (i : Int32) (n : Nat) : Bool := decide (¬ i < 0) && decide (i.toNatClampNeg < n)
/-- one step on cells -/
def pv_sh (K : Nat → Nat) (M pc : Nat) (i : Instr) (st : List Value) (h : pv_H) : Option (Nat × List Value × pv_H) := match i with
  | .getfield idx => match st with
    | .ref a :: r => match pv_gf M idx with
      | some (ci, k) => match h a with
        | some (.inr (cj, fs)) => if cj = ci then (match fs[k]? with
            | some v => some (pc + 3, v :: r, h)
            | none => none) else none
        | _ => none
      | none => none
    | _ => none
  | .putfield idx => match st with
    | v :: .ref a :: r => match pv_gf M idx with
      | some (ci, k) => match h a with
        | some (.inr (cj, fs)) => match pv_cls[ci]? with
          | some q => match parseFieldDescriptor (q.2.1 k).2.2.1 with
            | some ty => if cj = ci ∧ (q.2.1 k).2.2.2 = false ∧ narrow ty v = v ∧ fits ty v = true ∧ k < fs.length ∧ refKind ty = false then some (pc + 3, r, pv_set h a (.inr (ci, fs.set k v))) else none
            | none => none
          | none => none
        | _ => none
      | none => none
    | _ => none
  | .iaload => match st with
    | .int j :: .ref a :: r => match h a with
      | some (.inl (0, n, .inl f)) => if pv_in j n = true then some (pc + 1, .int (f j.toNatClampNeg) :: r, h) else none
      | _ => none
    | _ => none
  | .laload => match st with
    | .int j :: .ref a :: r => match h a with
      | some (.inl (1, n, .inr (.inl f))) => if pv_in j n = true then some (pc + 1, .long (f j.toNatClampNeg) :: r, h) else none
      | _ => none
    | _ => none
  | .baload => match st with
    | .int j :: .ref a :: r => match h a with
      | some (.inl (2, n, .inl f)) => if pv_in j n = true then some (pc + 1, .int (f j.toNatClampNeg) :: r, h) else none
      | some (.inl (3, n, .inl f)) => if pv_in j n = true then some (pc + 1, .int (f j.toNatClampNeg) :: r, h) else none
      | _ => none
    | _ => none
  | .aaload => match st with
    | .int j :: .ref a :: r => match h a with
      | some (.inl (4, n, .inr (.inr (.inr (.inr f))))) => if pv_in j n = true then some (pc + 1, va_rf (f j.toNatClampNeg) :: r, h) else none
      | some (.inl (5, n, .inr (.inr (.inr (.inr f))))) => if pv_in j n = true then some (pc + 1, va_rf (f j.toNatClampNeg) :: r, h) else none
      | _ => none
    | _ => none
  | .iastore => match st with
    | .int x :: .int j :: .ref a :: r => match h a with
      | some (.inl (0, n, .inl f)) => if pv_in j n = true then some (pc + 1, r, pv_set h a (.inl (0, n, .inl (upd f j.toNatClampNeg x)))) else none
      | _ => none
    | _ => none
  | .lastore => match st with
    | .long x :: .int j :: .ref a :: r => match h a with
      | some (.inl (1, n, .inr (.inl f))) => if pv_in j n = true then some (pc + 1, r, pv_set h a (.inl (1, n, .inr (.inl (vp_updL f j.toNatClampNeg x))))) else none
      | _ => none
    | _ => none
  | .bastore => match st with
    | .int x :: .int j :: .ref a :: r => match h a with
      | some (.inl (2, n, .inl f)) => if pv_in j n = true then some (pc + 1, r, pv_set h a (.inl (2, n, .inl (upd f j.toNatClampNeg (vp_nar .byte x))))) else none
      | some (.inl (3, n, .inl f)) => if pv_in j n = true then some (pc + 1, r, pv_set h a (.inl (3, n, .inl (upd f j.toNatClampNeg (vp_nar .boolean x))))) else none
      | _ => none
    | _ => none
  | .arraylength => match st with
    | .ref a :: r => match h a with
      | some (.inl (0, x)) => some (pc + 1, .int (Int32.ofNat x.1) :: r, h)
      | some (.inl (1, x)) => some (pc + 1, .int (Int32.ofNat x.1) :: r, h)
      | _ => none
    | _ => none
  | .ldc idx => match pv_kc M idx with
    | some v => some (pc + 2, .int v :: st, h)
    | none => match pv_ks M idx with
      | some k => some (pc + 2, .ref (K k) :: st, h)
      | none => none
  | .ldc_w idx => match pv_kc M idx with
    | some v => some (pc + 3, .int v :: st, h)
    | none => none
  | .ldc2_w idx => match pv_kd M idx with
    | some v => some (pc + 3, .long v :: st, h)
    | none => none
  | .invokevirtual idx => match pv_ml M idx with
    | some (y, none) => if y = pv_sln then (match st with
        | .ref b :: r => match pv_si K b with
          | some k => if pv_okL M = true ∧ (r.map fun v => v.category).sum ≤ 8 then some (pc + 3, .int (nI (pv_len.getD k 0)) :: r, h) else none
          | none => none
        | _ => none) else if y = pv_scn then (match st with
        | .int j :: .ref b :: r => match pv_si K b with
          | some k => if pv_okL M = true ∧ (r.map fun v => v.category).sum ≤ 8 ∧ pv_in j (pv_len.getD k 0) = true then some (pc + 3, .int ((pv_byt.getD k []).getD j.toNatClampNeg 0 &&& 255) :: r, h) else none
          | none => none
        | _ => none) else none
    | _ => none
  | .invokestatic idx => match pv_ml M idx with
    | some (y, none) => if y = pv_cpn ∧ pv_okC M = true then (match st with
        | .int n :: .int dp :: .ref a :: .int sp :: .ref a0 :: r => if (r.map fun v => v.category).sum ≤ 8 ∧ ¬ sp < 0 ∧ ¬ dp < 0 ∧ ¬ n < 0 then (match h a0, h a with
          | some (.inl (0, n0, .inl f)), some (.inl (0, n1, .inl g)) => if sp.toNatClampNeg + n.toNatClampNeg ≤ n0 ∧ dp.toNatClampNeg + n.toNatClampNeg ≤ n1 then some (pc + 3, r, pv_set h a (.inl (0, n1, .inl (va_cpy f g sp.toNatClampNeg dp.toNatClampNeg n.toNatClampNeg)))) else none
          | some (.inl (1, n0, .inr (.inl f))), some (.inl (1, n1, .inr (.inl g))) => if sp.toNatClampNeg + n.toNatClampNeg ≤ n0 ∧ dp.toNatClampNeg + n.toNatClampNeg ≤ n1 then some (pc + 3, r, pv_set h a (.inl (1, n1, .inr (.inl (va_cpy f g sp.toNatClampNeg dp.toNatClampNeg n.toNatClampNeg))))) else none
          | _, _ => none) else none
        | _ => none) else if y = Lib.Math.max.name ∧ pv_okM M y Lib.Math.max.code 2 (some .int) = true then (match st with
        | .int v :: .int u :: r => if (r.map fun v => v.category).sum ≤ 8 then some (pc + 3, .int (if u < v then v else u) :: r, h) else none
        | _ => none) else if y = Lib.Math.min.name ∧ pv_okM M y Lib.Math.min.code 2 (some .int) = true then (match st with
        | .int v :: .int u :: r => if (r.map fun v => v.category).sum ≤ 8 then some (pc + 3, .int (if v < u then v else u) :: r, h) else none
        | _ => none) else if y = Lib.MathLoose.abs_long.x ∧ pv_okM M y Lib.MathLoose.abs_long.code 2 (some .long) = true then (match st with
        | .long u :: r => if (r.map fun v => v.category).sum ≤ 8 then some (pc + 3, .long (if 0 < u then u else -u) :: r, h) else none
        | _ => none) else none
    | _ => none
  | _ => none
/-- THE MACHINE, n steps deep at most -/
def pv_ev (K : Nat → Nat) : Nat → Nat → Nat → pv_F → List Value → pv_H → Option (Option Value × pv_H)
  | 0, _, _, _, _, _ => none
  | n + 1, M, pc, f, st, h => match pv_dec M pc with
    | none => none
    | some (i, len) => if pv_ln i len = true then (match pv_sp (pv_mL M) pc f i st with
      | some (pc', f', st') => pv_ev K n M pc' f' st' h
      | none => match pv_sh K M pc i st h with
        | some (pc', st', h') => pv_ev K n M pc' f st' h'
        | none => match pv_re M i st with
          | some r => some (r, h)
          | none => match pv_cs M i st h with
            | some (M', as, rest) => (match pv_ev K n M' 0 (pv_en as) [] h with
              | some (r, h') => pv_ev K n M (pc + 3) f (r.toList ++ rest) h'
              | none => none)
            | none => none) else none
theorem pv_ev_mono (K : Nat → Nat) : ∀ (n M pc : Nat) (f : pv_F) (st : List Value) (h : pv_H) (x : Option Value × pv_H), pv_ev K n M pc f st h = some x → ∀ m, n ≤ m → pv_ev K m M pc f st h = some x := by
  intro n
  induction n with
  | zero => intro M pc f st h x hx; cases hx
  | succ n ih =>
    intro M pc f st h x hx m hm
    obtain ⟨m, rfl⟩ : ∃ k, m = k + 1 := ⟨m - 1, by omega⟩
    have hnm : n ≤ m := by omega
    rw [pv_ev] at hx ⊢
    split at hx
    · cases hx
    · rename_i i len hd
      split at hx
      · rename_i hl
        rw [if_pos hl]
        split at hx
        · exact ih _ _ _ _ _ _ hx m hnm
        · split at hx
          · exact ih _ _ _ _ _ _ hx m hnm
          · split at hx
            · exact hx
            · split at hx
              · rename_i M' as rest hc
                split at hx
                · rename_i r h' hr
                  rw [ih _ _ _ _ _ _ hr m hnm]
                  exact ih _ _ _ _ _ _ hx m hnm
                · cases hx
              · cases hx
      · cases hx
end
section
theorem pv_tg_spec {pc : Nat} {o : Int} {t : Nat} (h : pv_tg pc o = some t) : (pc : Int) + o = (t : Int) := by
  unfold pv_tg at h
  split at h
  · rename_i t' ht
    cases h
    exact ht
  · cases h
/-- the real locals hold what the plain ones say -/
def pv_L (f : pv_F) (ls : Array Slot) (nL : Nat) : Prop := ls.size = nL ∧ lv_wf ls ∧ ∀ i v, f i = some v → ls[i]? = some (.val v)
def pv_ps (f : pv_F) (nL : Nat) : List (Nat × Value) := (List.range nL).filterMap fun i => (f i).map fun v => (i, v)
theorem pv_L.lt {f : pv_F} {ls : Array Slot} {nL i : Nat} {v : Value} (h : pv_L f ls nL) (hf : f i = some v) : i < nL := by
  have := h.2.2 i v hf
  have h2 := (Array.getElem?_eq_some_iff.mp this).1
  rw [h.1] at h2
  exact h2
theorem pv_L.mem {f : pv_F} {ls : Array Slot} {nL i : Nat} {v : Value} (h : pv_L f ls nL) (hf : f i = some v) : (i, v) ∈ pv_ps f nL := List.mem_filterMap.mpr ⟨i, List.mem_range.mpr (h.lt hf), by rw [hf]; rfl⟩
theorem pv_L.has {f : pv_F} {ls : Array Slot} {nL : Nat} (h : pv_L f ls nL) : lv_has ls nL (pv_ps f nL) := by
  refine ⟨h.1, h.2.1, fun q hq => ?_⟩
  obtain ⟨i, hi, e⟩ := List.mem_filterMap.mp hq
  cases hv : f i with
  | none => rw [hv] at e; cases e
  | some v => rw [hv] at e; cases e; exact h.2.2 _ _ hv
theorem pv_L.up1 {f : pv_F} {ls ls' : Array Slot} {nL i : Nat} {v : Value} (h : pv_L f ls nL) (h' : lv_has ls' nL ((i, v) :: (pv_ps f nL).filter (fun q => !(q.1 == i) && !(q.1 + 1 == i && q.2.category == 2)))) : pv_L (pv_up1 f i v) ls' nL := by
  refine ⟨h'.1, h'.2.1, fun j w hw => ?_⟩
  unfold pv_up1 at hw
  by_cases hj : j = i
  · rw [if_pos hj] at hw
    cases hw
    subst hj
    exact h'.2.2 (j, v) List.mem_cons_self
  · rw [if_neg hj] at hw
    split at hw
    · rename_i w' hw'
      split at hw
      · cases hw
      · rename_i hn
        cases hw
        refine h'.2.2 (j, w) (List.mem_cons_of_mem _ (List.mem_filter.mpr ⟨h.mem hw', ?_⟩))
        simp only [Bool.and_eq_true, Bool.not_eq_true', beq_eq_false_iff_ne, ne_eq, hj, not_false_eq_true, true_and]
        cases hb : (j + 1 == i && w.category == 2) with
        | false => rfl
        | true =>
          simp only [Bool.and_eq_true, beq_iff_eq] at hb
          exact absurd hb hn
    · cases hw
theorem pv_L.up2 {f : pv_F} {ls ls' : Array Slot} {nL i : Nat} {v : Value} (h : pv_L f ls nL) (h' : lv_has ls' nL ((i, v) :: (pv_ps f nL).filter (fun q => !(q.1 == i) && (!(q.1 == i + 1) && !(q.1 + 1 == i && q.2.category == 2))))) : pv_L (pv_up2 f i v) ls' nL := by
  refine ⟨h'.1, h'.2.1, fun j w hw => ?_⟩
  unfold pv_up2 at hw
  by_cases hj : j = i
  · rw [if_pos hj] at hw
    cases hw
    subst hj
    exact h'.2.2 (j, v) List.mem_cons_self
  · rw [if_neg hj] at hw
    by_cases hj1 : j = i + 1
    · rw [if_pos hj1] at hw
      cases hw
    rw [if_neg hj1] at hw
    split at hw
    · rename_i w' hw'
      split at hw
      · cases hw
      · rename_i hn
        cases hw
        refine h'.2.2 (j, w) (List.mem_cons_of_mem _ (List.mem_filter.mpr ⟨h.mem hw', ?_⟩))
        simp only [Bool.and_eq_true, Bool.not_eq_true', beq_eq_false_iff_ne, ne_eq, hj, hj1, not_false_eq_true, true_and]
        cases hb : (j + 1 == i && w.category == 2) with
        | false => rfl
        | true =>
          simp only [Bool.and_eq_true, beq_iff_eq] at hb
          exact absurd hb hn
    · cases hw
section SP
variable {p : Program} {l : Launch} {e : Env} {R : Room} {s : State} {m : MethodId} {args : Array Value} {below : List Frame} {meth : Method} {c : Code} {H : Heap} {locs : List Loc} {cells slots : Nat} {Q : State → Prop}
set_option maxHeartbeats 8000000 in
set_option maxRecDepth 20000 in
theorem pv_simP {cc : ByteArray} {pc pc' len nL : Nat} {f f' : pv_F} {st st' : List Value} {i : Instr} {ls : Array Slot} (hx : p.tables.exec = Jvm.exec) (hb : c.code = cc) (hdg : decode cc pc = .ok (i, len)) (hlen : pv_ln i len = true) (hs : pv_sp nL pc f i st = some (pc', f', st')) (hl : pv_L f ls nL)
    (k : ∀ ls', pv_L f' ls' nL → W p l e R s m args below meth c H locs cells slots Q (F0 m pc' ls' st')) : W p l e R s m args below meth c H locs cells slots Q (F0 m pc ls st) := by
  cases i with
  | iadd =>
    simp only [pv_sp] at hs
    split at hs
    · simp only [Option.some.injEq, Prod.mk.injEq] at hs
      obtain ⟨rfl, rfl, rfl⟩ := hs
      obtain rfl : len = 1 := by simpa [pv_ln] using hlen
      exact lv_iadd hx hb hdg (k _ hl)
    · cases hs
  | isub =>
    simp only [pv_sp] at hs
    split at hs
    · simp only [Option.some.injEq, Prod.mk.injEq] at hs
      obtain ⟨rfl, rfl, rfl⟩ := hs
      obtain rfl : len = 1 := by simpa [pv_ln] using hlen
      exact lv_isub hx hb hdg (k _ hl)
    · cases hs
  | imul =>
    simp only [pv_sp] at hs
    split at hs
    · simp only [Option.some.injEq, Prod.mk.injEq] at hs
      obtain ⟨rfl, rfl, rfl⟩ := hs
      obtain rfl : len = 1 := by simpa [pv_ln] using hlen
      exact lv_imul hx hb hdg (k _ hl)
    · cases hs
  | iand =>
    simp only [pv_sp] at hs
    split at hs
    · simp only [Option.some.injEq, Prod.mk.injEq] at hs
      obtain ⟨rfl, rfl, rfl⟩ := hs
      obtain rfl : len = 1 := by simpa [pv_ln] using hlen
      exact lv_iand hx hb hdg (k _ hl)
    · cases hs
  | ior =>
    simp only [pv_sp] at hs
    split at hs
    · simp only [Option.some.injEq, Prod.mk.injEq] at hs
      obtain ⟨rfl, rfl, rfl⟩ := hs
      obtain rfl : len = 1 := by simpa [pv_ln] using hlen
      exact lv_ior hx hb hdg (k _ hl)
    · cases hs
  | ixor =>
    simp only [pv_sp] at hs
    split at hs
    · simp only [Option.some.injEq, Prod.mk.injEq] at hs
      obtain ⟨rfl, rfl, rfl⟩ := hs
      obtain rfl : len = 1 := by simpa [pv_ln] using hlen
      exact lv_ixor hx hb hdg (k _ hl)
    · cases hs
  | ishl =>
    simp only [pv_sp] at hs
    split at hs
    · simp only [Option.some.injEq, Prod.mk.injEq] at hs
      obtain ⟨rfl, rfl, rfl⟩ := hs
      obtain rfl : len = 1 := by simpa [pv_ln] using hlen
      exact lv_ishl hx hb hdg (k _ hl)
    · cases hs
  | ishr =>
    simp only [pv_sp] at hs
    split at hs
    · simp only [Option.some.injEq, Prod.mk.injEq] at hs
      obtain ⟨rfl, rfl, rfl⟩ := hs
      obtain rfl : len = 1 := by simpa [pv_ln] using hlen
      exact lv_ishr hx hb hdg (k _ hl)
    · cases hs
  | ineg =>
    simp only [pv_sp] at hs
    split at hs
    · simp only [Option.some.injEq, Prod.mk.injEq] at hs
      obtain ⟨rfl, rfl, rfl⟩ := hs
      obtain rfl : len = 1 := by simpa [pv_ln] using hlen
      exact lv_ineg hx hb hdg (k _ hl)
    · cases hs
  | ladd =>
    simp only [pv_sp] at hs
    split at hs
    · simp only [Option.some.injEq, Prod.mk.injEq] at hs
      obtain ⟨rfl, rfl, rfl⟩ := hs
      obtain rfl : len = 1 := by simpa [pv_ln] using hlen
      exact lv_ladd hx hb hdg (k _ hl)
    · cases hs
  | lsub =>
    simp only [pv_sp] at hs
    split at hs
    · simp only [Option.some.injEq, Prod.mk.injEq] at hs
      obtain ⟨rfl, rfl, rfl⟩ := hs
      obtain rfl : len = 1 := by simpa [pv_ln] using hlen
      exact lv_lsub hx hb hdg (k _ hl)
    · cases hs
  | lmul =>
    simp only [pv_sp] at hs
    split at hs
    · simp only [Option.some.injEq, Prod.mk.injEq] at hs
      obtain ⟨rfl, rfl, rfl⟩ := hs
      obtain rfl : len = 1 := by simpa [pv_ln] using hlen
      exact lv_lmul hx hb hdg (k _ hl)
    · cases hs
  | land =>
    simp only [pv_sp] at hs
    split at hs
    · simp only [Option.some.injEq, Prod.mk.injEq] at hs
      obtain ⟨rfl, rfl, rfl⟩ := hs
      obtain rfl : len = 1 := by simpa [pv_ln] using hlen
      exact lv_land hx hb hdg (k _ hl)
    · cases hs
  | lor =>
    simp only [pv_sp] at hs
    split at hs
    · simp only [Option.some.injEq, Prod.mk.injEq] at hs
      obtain ⟨rfl, rfl, rfl⟩ := hs
      obtain rfl : len = 1 := by simpa [pv_ln] using hlen
      exact lv_lor hx hb hdg (k _ hl)
    · cases hs
  | lneg =>
    simp only [pv_sp] at hs
    split at hs
    · simp only [Option.some.injEq, Prod.mk.injEq] at hs
      obtain ⟨rfl, rfl, rfl⟩ := hs
      obtain rfl : len = 1 := by simpa [pv_ln] using hlen
      exact lv_lneg hx hb hdg (k _ hl)
    · cases hs
  | iushr =>
    simp only [pv_sp] at hs
    split at hs
    · simp only [Option.some.injEq, Prod.mk.injEq] at hs
      obtain ⟨rfl, rfl, rfl⟩ := hs
      obtain rfl : len = 1 := by simpa [pv_ln] using hlen
      exact lv_iushr hx hb hdg rfl (k _ hl)
    · cases hs
  | lshl =>
    simp only [pv_sp] at hs
    split at hs
    · simp only [Option.some.injEq, Prod.mk.injEq] at hs
      obtain ⟨rfl, rfl, rfl⟩ := hs
      obtain rfl : len = 1 := by simpa [pv_ln] using hlen
      exact lv_lshl hx hb hdg rfl (k _ hl)
    · cases hs
  | lshr =>
    simp only [pv_sp] at hs
    split at hs
    · simp only [Option.some.injEq, Prod.mk.injEq] at hs
      obtain ⟨rfl, rfl, rfl⟩ := hs
      obtain rfl : len = 1 := by simpa [pv_ln] using hlen
      exact lv_lshr hx hb hdg rfl (k _ hl)
    · cases hs
  | i2l =>
    simp only [pv_sp] at hs
    split at hs
    · simp only [Option.some.injEq, Prod.mk.injEq] at hs
      obtain ⟨rfl, rfl, rfl⟩ := hs
      obtain rfl : len = 1 := by simpa [pv_ln] using hlen
      exact lv_i2l hx hb hdg rfl (k _ hl)
    · cases hs
  | l2i =>
    simp only [pv_sp] at hs
    split at hs
    · simp only [Option.some.injEq, Prod.mk.injEq] at hs
      obtain ⟨rfl, rfl, rfl⟩ := hs
      obtain rfl : len = 1 := by simpa [pv_ln] using hlen
      exact lv_l2i hx hb hdg rfl (k _ hl)
    · cases hs
  | i2b =>
    simp only [pv_sp] at hs
    split at hs
    · simp only [Option.some.injEq, Prod.mk.injEq] at hs
      obtain ⟨rfl, rfl, rfl⟩ := hs
      obtain rfl : len = 1 := by simpa [pv_ln] using hlen
      exact lv_i2b hx hb hdg rfl (k _ hl)
    · cases hs
  | i2s =>
    simp only [pv_sp] at hs
    split at hs
    · simp only [Option.some.injEq, Prod.mk.injEq] at hs
      obtain ⟨rfl, rfl, rfl⟩ := hs
      obtain rfl : len = 1 := by simpa [pv_ln] using hlen
      exact lv_i2s hx hb hdg rfl (k _ hl)
    · cases hs
  | lcmp =>
    simp only [pv_sp] at hs
    split at hs
    · simp only [Option.some.injEq, Prod.mk.injEq] at hs
      obtain ⟨rfl, rfl, rfl⟩ := hs
      obtain rfl : len = 1 := by simpa [pv_ln] using hlen
      exact W.lcmp hx hb hdg (k _ hl)
    · cases hs
  | idiv =>
    simp only [pv_sp] at hs
    split at hs
    · split at hs
      · cases hs
      · rename_i hne
        simp only [Option.some.injEq, Prod.mk.injEq] at hs
        obtain ⟨rfl, rfl, rfl⟩ := hs
        obtain rfl : len = 1 := by simpa [pv_ln] using hlen
        exact lv_idiv hx hb hdg hne (k _ hl)
    · cases hs
  | irem =>
    simp only [pv_sp] at hs
    split at hs
    · split at hs
      · cases hs
      · rename_i hne
        simp only [Option.some.injEq, Prod.mk.injEq] at hs
        obtain ⟨rfl, rfl, rfl⟩ := hs
        obtain rfl : len = 1 := by simpa [pv_ln] using hlen
        exact lv_irem hx hb hdg hne (k _ hl)
    · cases hs
  | ldiv =>
    simp only [pv_sp] at hs
    split at hs
    · split at hs
      · cases hs
      · rename_i hne
        simp only [Option.some.injEq, Prod.mk.injEq] at hs
        obtain ⟨rfl, rfl, rfl⟩ := hs
        obtain rfl : len = 1 := by simpa [pv_ln] using hlen
        exact lv_ldiv hx hb hdg hne (k _ hl)
    · cases hs
  | lrem =>
    simp only [pv_sp] at hs
    split at hs
    · split at hs
      · cases hs
      · rename_i hne
        simp only [Option.some.injEq, Prod.mk.injEq] at hs
        obtain ⟨rfl, rfl, rfl⟩ := hs
        obtain rfl : len = 1 := by simpa [pv_ln] using hlen
        exact lv_lrem hx hb hdg hne (k _ hl)
    · cases hs
  | iconst n =>
    simp only [pv_sp, Option.some.injEq, Prod.mk.injEq] at hs
    obtain ⟨rfl, rfl, rfl⟩ := hs
    obtain rfl : len = 1 := by simpa [pv_ln] using hlen
    exact lv_iconst hx hb hdg rfl (k _ hl)
  | bipush n =>
    simp only [pv_sp, Option.some.injEq, Prod.mk.injEq] at hs
    obtain ⟨rfl, rfl, rfl⟩ := hs
    obtain rfl : len = 2 := by simpa [pv_ln] using hlen
    exact lv_bipush hx hb hdg rfl (k _ hl)
  | sipush n =>
    simp only [pv_sp, Option.some.injEq, Prod.mk.injEq] at hs
    obtain ⟨rfl, rfl, rfl⟩ := hs
    obtain rfl : len = 3 := by simpa [pv_ln] using hlen
    exact lv_sipush hx hb hdg rfl (k _ hl)
  | lconst n =>
    simp only [pv_sp, Option.some.injEq, Prod.mk.injEq] at hs
    obtain ⟨rfl, rfl, rfl⟩ := hs
    obtain rfl : len = 1 := by simpa [pv_ln] using hlen
    exact lv_lconst hx hb hdg rfl (k _ hl)
  | iload_n n =>
    simp only [pv_sp] at hs
    split at hs
    · rename_i x hfx
      simp only [Option.some.injEq, Prod.mk.injEq] at hs
      obtain ⟨rfl, rfl, rfl⟩ := hs
      obtain rfl : len = 1 := by simpa [pv_ln] using hlen
      exact lv_iload_n hx hb hdg rfl (hl.2.2 _ _ hfx) (k _ hl)
    · cases hs
  | iload n =>
    simp only [pv_sp] at hs
    split at hs
    · rename_i x hfx
      simp only [Option.some.injEq, Prod.mk.injEq] at hs
      obtain ⟨rfl, rfl, rfl⟩ := hs
      obtain rfl : len = 2 := by simpa [pv_ln] using hlen
      exact lv_iload hx hb hdg (hl.2.2 _ _ hfx) (k _ hl)
    · cases hs
  | lload_n n =>
    simp only [pv_sp] at hs
    split at hs
    · rename_i x hfx
      simp only [Option.some.injEq, Prod.mk.injEq] at hs
      obtain ⟨rfl, rfl, rfl⟩ := hs
      obtain rfl : len = 1 := by simpa [pv_ln] using hlen
      exact lv_lload_n hx hb hdg rfl (hl.2.2 _ _ hfx) (k _ hl)
    · cases hs
  | lload n =>
    simp only [pv_sp] at hs
    split at hs
    · rename_i x hfx
      simp only [Option.some.injEq, Prod.mk.injEq] at hs
      obtain ⟨rfl, rfl, rfl⟩ := hs
      obtain rfl : len = 2 := by simpa [pv_ln] using hlen
      exact lv_lload hx hb hdg (hl.2.2 _ _ hfx) (k _ hl)
    · cases hs
  | aload_n n =>
    simp only [pv_sp] at hs
    split at hs
    · rename_i x hfx
      simp only [Option.some.injEq, Prod.mk.injEq] at hs
      obtain ⟨rfl, rfl, rfl⟩ := hs
      obtain rfl : len = 1 := by simpa [pv_ln] using hlen
      exact lv_aload_n hx hb hdg rfl (hl.2.2 _ _ hfx) (k _ hl)
    · cases hs
  | aload n =>
    simp only [pv_sp] at hs
    split at hs
    · rename_i x hfx
      simp only [Option.some.injEq, Prod.mk.injEq] at hs
      obtain ⟨rfl, rfl, rfl⟩ := hs
      obtain rfl : len = 2 := by simpa [pv_ln] using hlen
      exact lv_aload hx hb hdg (hl.2.2 _ _ hfx) (k _ hl)
    · cases hs
  | istore_n n =>
    simp only [pv_sp] at hs
    split at hs
    · split at hs
      · rename_i hn
        simp only [Option.some.injEq, Prod.mk.injEq] at hs
        obtain ⟨rfl, rfl, rfl⟩ := hs
        obtain rfl : len = 1 := by simpa [pv_ln] using hlen
        exact lv_istore_n hx hb hdg rfl hl.has hn rfl (fun ls' hl' => k ls' (pv_L.up1 hl hl'))
      · cases hs
    · cases hs
  | istore n =>
    simp only [pv_sp] at hs
    split at hs
    · split at hs
      · rename_i hn
        simp only [Option.some.injEq, Prod.mk.injEq] at hs
        obtain ⟨rfl, rfl, rfl⟩ := hs
        obtain rfl : len = 2 := by simpa [pv_ln] using hlen
        exact lv_istore hx hb hdg hl.has hn rfl (fun ls' hl' => k ls' (pv_L.up1 hl hl'))
      · cases hs
    · cases hs
  | lstore_n n =>
    simp only [pv_sp] at hs
    split at hs
    · split at hs
      · rename_i hn
        simp only [Option.some.injEq, Prod.mk.injEq] at hs
        obtain ⟨rfl, rfl, rfl⟩ := hs
        obtain rfl : len = 1 := by simpa [pv_ln] using hlen
        exact lv_lstore_n hx hb hdg rfl hl.has hn rfl (fun ls' hl' => k ls' (pv_L.up2 hl hl'))
      · cases hs
    · cases hs
  | lstore n =>
    simp only [pv_sp] at hs
    split at hs
    · split at hs
      · rename_i hn
        simp only [Option.some.injEq, Prod.mk.injEq] at hs
        obtain ⟨rfl, rfl, rfl⟩ := hs
        obtain rfl : len = 2 := by simpa [pv_ln] using hlen
        exact lv_lstore hx hb hdg hl.has hn rfl (fun ls' hl' => k ls' (pv_L.up2 hl hl'))
      · cases hs
    · cases hs
  | astore_n n =>
    simp only [pv_sp] at hs
    split at hs
    · split at hs
      · rename_i hn
        simp only [Option.some.injEq, Prod.mk.injEq] at hs
        obtain ⟨rfl, rfl, rfl⟩ := hs
        obtain rfl : len = 1 := by simpa [pv_ln] using hlen
        exact lv_astore_n hx hb hdg rfl hl.has hn rfl (fun ls' hl' => k ls' (pv_L.up1 hl hl'))
      · cases hs
    · cases hs
  | astore n =>
    simp only [pv_sp] at hs
    split at hs
    · split at hs
      · rename_i hn
        simp only [Option.some.injEq, Prod.mk.injEq] at hs
        obtain ⟨rfl, rfl, rfl⟩ := hs
        obtain rfl : len = 2 := by simpa [pv_ln] using hlen
        exact lv_astore hx hb hdg hl.has hn rfl (fun ls' hl' => k ls' (pv_L.up1 hl hl'))
      · cases hs
    · cases hs
  | iinc n z =>
    simp only [pv_sp] at hs
    split at hs
    · rename_i x hfx
      split at hs
      · rename_i hn
        simp only [Option.some.injEq, Prod.mk.injEq] at hs
        obtain ⟨rfl, rfl, rfl⟩ := hs
        obtain rfl : len = 3 := by simpa [pv_ln] using hlen
        obtain ⟨q, hq⟩ := List.getElem?_of_mem (hl.mem hfx)
        exact lv_iinc hx hb hdg hl.has hq rfl hn rfl (fun ls' hl' => k ls' (pv_L.up1 hl hl'))
      · cases hs
    · cases hs
  | dup =>
    simp only [pv_sp] at hs
    split at hs
    · split at hs
      · rename_i hc
        simp only [Option.some.injEq, Prod.mk.injEq] at hs
        obtain ⟨rfl, rfl, rfl⟩ := hs
        obtain rfl : len = 1 := by simpa [pv_ln] using hlen
        exact lv_dup hx hb hdg hc (k _ hl)
      · cases hs
    · cases hs
  | pop =>
    simp only [pv_sp] at hs
    split at hs
    · split at hs
      · rename_i hc
        simp only [Option.some.injEq, Prod.mk.injEq] at hs
        obtain ⟨rfl, rfl, rfl⟩ := hs
        obtain rfl : len = 1 := by simpa [pv_ln] using hlen
        exact lv_pop hx hb hdg hc (k _ hl)
      · cases hs
    · cases hs
  | dup2 =>
    simp only [pv_sp] at hs
    split at hs
    · split at hs
      · rename_i hc
        simp only [Option.some.injEq, Prod.mk.injEq] at hs
        obtain ⟨rfl, rfl, rfl⟩ := hs
        obtain rfl : len = 1 := by simpa [pv_ln] using hlen
        exact lv_dup2_11 hx hb hdg hc.1 hc.2 (k _ hl)
      · cases hs
    · cases hs
  | pop2 =>
    simp only [pv_sp] at hs
    split at hs
    · split at hs
      · rename_i hc
        simp only [Option.some.injEq, Prod.mk.injEq] at hs
        obtain ⟨rfl, rfl, rfl⟩ := hs
        obtain rfl : len = 1 := by simpa [pv_ln] using hlen
        exact lv_pop2_2 hx hb hdg hc (k _ hl)
      · cases hs
    · cases hs
  | goto o =>
    simp only [pv_sp] at hs
    split at hs
    · rename_i t ht
      simp only [Option.some.injEq, Prod.mk.injEq] at hs
      obtain ⟨rfl, rfl, rfl⟩ := hs
      obtain rfl : len = 3 := by simpa [pv_ln] using hlen
      exact lv_goto hx hb hdg (pv_tg_spec ht) (k _ hl)
    · cases hs
  | ifCond cd o =>
    simp only [pv_sp] at hs
    split at hs
    · split at hs
      · rename_i t ht
        obtain rfl : len = 3 := by simpa [pv_ln] using hlen
        cases cd
        · refine lv_if_eq hx hb hdg (pv_tg_spec ht) (fun hc => ?_) (fun hc => ?_)
          · rw [if_pos (by simp [pv_cb]; first | exact hc | simpa using hc)] at hs
            simp only [Option.some.injEq, Prod.mk.injEq] at hs
            obtain ⟨rfl, rfl, rfl⟩ := hs
            exact k _ hl
          · rw [if_neg (by simp [pv_cb]; first | exact hc | simpa using hc)] at hs
            simp only [Option.some.injEq, Prod.mk.injEq] at hs
            obtain ⟨rfl, rfl, rfl⟩ := hs
            exact k _ hl
        · refine lv_if_ne hx hb hdg (pv_tg_spec ht) (fun hc => ?_) (fun hc => ?_)
          · rw [if_pos (by simp [pv_cb]; first | exact hc | simpa using hc)] at hs
            simp only [Option.some.injEq, Prod.mk.injEq] at hs
            obtain ⟨rfl, rfl, rfl⟩ := hs
            exact k _ hl
          · rw [if_neg (by simp [pv_cb]; first | exact hc | simpa using hc)] at hs
            simp only [Option.some.injEq, Prod.mk.injEq] at hs
            obtain ⟨rfl, rfl, rfl⟩ := hs
            exact k _ hl
        · refine lv_if_lt hx hb hdg (pv_tg_spec ht) (fun hc => ?_) (fun hc => ?_)
          · rw [if_pos (by simp [pv_cb]; first | exact hc | simpa using hc)] at hs
            simp only [Option.some.injEq, Prod.mk.injEq] at hs
            obtain ⟨rfl, rfl, rfl⟩ := hs
            exact k _ hl
          · rw [if_neg (by simp [pv_cb]; first | exact hc | simpa using hc)] at hs
            simp only [Option.some.injEq, Prod.mk.injEq] at hs
            obtain ⟨rfl, rfl, rfl⟩ := hs
            exact k _ hl
        · refine lv_if_ge hx hb hdg (pv_tg_spec ht) (fun hc => ?_) (fun hc => ?_)
          · rw [if_pos (by simp [pv_cb]; first | exact hc | simpa using hc)] at hs
            simp only [Option.some.injEq, Prod.mk.injEq] at hs
            obtain ⟨rfl, rfl, rfl⟩ := hs
            exact k _ hl
          · rw [if_neg (by simp [pv_cb]; first | exact hc | simpa using hc)] at hs
            simp only [Option.some.injEq, Prod.mk.injEq] at hs
            obtain ⟨rfl, rfl, rfl⟩ := hs
            exact k _ hl
        · refine lv_if_gt hx hb hdg (pv_tg_spec ht) (fun hc => ?_) (fun hc => ?_)
          · rw [if_pos (by simp [pv_cb]; first | exact hc | simpa using hc)] at hs
            simp only [Option.some.injEq, Prod.mk.injEq] at hs
            obtain ⟨rfl, rfl, rfl⟩ := hs
            exact k _ hl
          · rw [if_neg (by simp [pv_cb]; first | exact hc | simpa using hc)] at hs
            simp only [Option.some.injEq, Prod.mk.injEq] at hs
            obtain ⟨rfl, rfl, rfl⟩ := hs
            exact k _ hl
        · refine lv_if_le hx hb hdg (pv_tg_spec ht) (fun hc => ?_) (fun hc => ?_)
          · rw [if_pos (by simp [pv_cb]; first | exact hc | simpa using hc)] at hs
            simp only [Option.some.injEq, Prod.mk.injEq] at hs
            obtain ⟨rfl, rfl, rfl⟩ := hs
            exact k _ hl
          · rw [if_neg (by simp [pv_cb]; first | exact hc | simpa using hc)] at hs
            simp only [Option.some.injEq, Prod.mk.injEq] at hs
            obtain ⟨rfl, rfl, rfl⟩ := hs
            exact k _ hl
      · cases hs
    · cases hs
  | if_icmp cd o =>
    simp only [pv_sp] at hs
    split at hs
    · split at hs
      · rename_i t ht
        obtain rfl : len = 3 := by simpa [pv_ln] using hlen
        cases cd
        · refine lv_icmp_eq hx hb hdg (pv_tg_spec ht) (fun hc => ?_) (fun hc => ?_)
          · rw [if_pos (by simp [pv_cb]; first | exact hc | simpa using hc)] at hs
            simp only [Option.some.injEq, Prod.mk.injEq] at hs
            obtain ⟨rfl, rfl, rfl⟩ := hs
            exact k _ hl
          · rw [if_neg (by simp [pv_cb]; first | exact hc | simpa using hc)] at hs
            simp only [Option.some.injEq, Prod.mk.injEq] at hs
            obtain ⟨rfl, rfl, rfl⟩ := hs
            exact k _ hl
        · refine lv_icmp_ne hx hb hdg (pv_tg_spec ht) (fun hc => ?_) (fun hc => ?_)
          · rw [if_pos (by simp [pv_cb]; first | exact hc | simpa using hc)] at hs
            simp only [Option.some.injEq, Prod.mk.injEq] at hs
            obtain ⟨rfl, rfl, rfl⟩ := hs
            exact k _ hl
          · rw [if_neg (by simp [pv_cb]; first | exact hc | simpa using hc)] at hs
            simp only [Option.some.injEq, Prod.mk.injEq] at hs
            obtain ⟨rfl, rfl, rfl⟩ := hs
            exact k _ hl
        · refine lv_icmp_lt hx hb hdg (pv_tg_spec ht) (fun hc => ?_) (fun hc => ?_)
          · rw [if_pos (by simp [pv_cb]; first | exact hc | simpa using hc)] at hs
            simp only [Option.some.injEq, Prod.mk.injEq] at hs
            obtain ⟨rfl, rfl, rfl⟩ := hs
            exact k _ hl
          · rw [if_neg (by simp [pv_cb]; first | exact hc | simpa using hc)] at hs
            simp only [Option.some.injEq, Prod.mk.injEq] at hs
            obtain ⟨rfl, rfl, rfl⟩ := hs
            exact k _ hl
        · refine lv_icmp_ge hx hb hdg (pv_tg_spec ht) (fun hc => ?_) (fun hc => ?_)
          · rw [if_pos (by simp [pv_cb]; first | exact hc | simpa using hc)] at hs
            simp only [Option.some.injEq, Prod.mk.injEq] at hs
            obtain ⟨rfl, rfl, rfl⟩ := hs
            exact k _ hl
          · rw [if_neg (by simp [pv_cb]; first | exact hc | simpa using hc)] at hs
            simp only [Option.some.injEq, Prod.mk.injEq] at hs
            obtain ⟨rfl, rfl, rfl⟩ := hs
            exact k _ hl
        · refine lv_icmp_gt hx hb hdg (pv_tg_spec ht) (fun hc => ?_) (fun hc => ?_)
          · rw [if_pos (by simp [pv_cb]; first | exact hc | simpa using hc)] at hs
            simp only [Option.some.injEq, Prod.mk.injEq] at hs
            obtain ⟨rfl, rfl, rfl⟩ := hs
            exact k _ hl
          · rw [if_neg (by simp [pv_cb]; first | exact hc | simpa using hc)] at hs
            simp only [Option.some.injEq, Prod.mk.injEq] at hs
            obtain ⟨rfl, rfl, rfl⟩ := hs
            exact k _ hl
        · refine lv_icmp_le hx hb hdg (pv_tg_spec ht) (fun hc => ?_) (fun hc => ?_)
          · rw [if_pos (by simp [pv_cb]; first | exact hc | simpa using hc)] at hs
            simp only [Option.some.injEq, Prod.mk.injEq] at hs
            obtain ⟨rfl, rfl, rfl⟩ := hs
            exact k _ hl
          · rw [if_neg (by simp [pv_cb]; first | exact hc | simpa using hc)] at hs
            simp only [Option.some.injEq, Prod.mk.injEq] at hs
            obtain ⟨rfl, rfl, rfl⟩ := hs
            exact k _ hl
      · cases hs
    · cases hs
  | tableswitch d lo hi os =>
    simp only [pv_sp] at hs
    split at hs
    · split at hs
      · rename_i hout
        split at hs
        · rename_i t ht
          simp only [Option.some.injEq, Prod.mk.injEq] at hs
          obtain ⟨rfl, rfl, rfl⟩ := hs
          exact lv_tableOut hx hb hdg hout (pv_tg_spec ht) (k _ hl)
        · cases hs
      · rename_i hin
        split at hs
        · rename_i o ho
          split at hs
          · rename_i t ht
            simp only [Option.some.injEq, Prod.mk.injEq] at hs
            obtain ⟨rfl, rfl, rfl⟩ := hs
            exact lv_tableIn hx hb hdg (fun q => hin (Or.inl q)) (fun q => hin (Or.inr q)) ho (pv_tg_spec ht) (k _ hl)
          · cases hs
        · cases hs
    · cases hs
  | lookupswitch d ps =>
    simp only [pv_sp] at hs
    split at hs
    · split at hs
      · rename_i hp
        split at hs
        · rename_i t ht
          simp only [Option.some.injEq, Prod.mk.injEq] at hs
          obtain ⟨rfl, rfl, rfl⟩ := hs
          exact lv_lookup hx hb hdg hp rfl (pv_tg_spec ht) (k _ hl)
        · cases hs
      · cases hs
    · cases hs
  | _ => simp [pv_sp] at hs
end SP
end
section
/-- the words that every method has -/
def pv_big : List Cond := lw_tbl.filter goodWord
def pv_wsM (M : Nat) : List Cond := Cond.code (pv_y M) (pv_bc M) (pv_mL M) (pv_rt M) :: pv_big
abbrev pv_rmM (M : Nat) : Room := { frames := pv_fr M, cells := 0, slots := 0, locals := pv_lo M }
theorem pv_bigmem {w : Cond} (h : w ∈ lw_tbl) (hg : goodWord w = true) : w ∈ pv_big := List.mem_filter.mpr ⟨h, hg⟩
theorem pv_gf_spec {M idx ci k : Nat} (h : pv_gf M idx = some (ci, k)) : ∃ q : vw_C, pv_cls[ci]? = some q ∧ k < q.2.2 ∧ Cond.fieldLink (pv_own M) idx (q.2.1 k).1 (q.2.1 k).2.1 (q.2.1 k).2.2.1 ∈ lw_tbl := by
  obtain ⟨w, hw, he⟩ := List.exists_of_findSome?_eq_some h
  split at he
  · rename_i o i r n d
    split at he
    · rename_i hc
      obtain ⟨rfl, rfl⟩ := hc
      cases hf : pv_find r with
      | none => rw [hf] at he; cases he
      | some cj =>
        rw [hf] at he
        simp only [Option.bind_some] at he
        split at he
        · rename_i q hq
          cases hk : (List.range q.2.2).find? fun k => decide (q.2.1 k = (r, n, d, (q.2.1 k).2.2.2)) with
          | none => rw [hk] at he; cases he
          | some k' =>
            rw [hk] at he
            simp only [Option.map_some, Option.some.injEq, Prod.mk.injEq] at he
            obtain ⟨rfl, rfl⟩ := he
            have h1 := List.find?_some hk
            have h2 := List.mem_of_find?_eq_some hk
            simp only [decide_eq_true_eq] at h1
            refine ⟨q, hq, List.mem_range.mp h2, ?_⟩
            rw [h1]
            exact hw
        · cases he
    · cases he
  · cases he
theorem pv_kc_spec {M idx : Nat} {v : Int32} (h : pv_kc M idx = some v) : Cond.constant (pv_own M) idx v ∈ lw_tbl := by
  obtain ⟨w, hw, he⟩ := List.exists_of_findSome?_eq_some h
  split at he
  · split at he
    · rename_i hc
      obtain ⟨rfl, rfl⟩ := hc
      cases he
      exact hw
    · cases he
  · cases he
theorem pv_kd_spec {M idx : Nat} {v : Int64} (h : pv_kd M idx = some v) : Cond.constantLong (pv_own M) idx v ∈ lw_tbl := by
  obtain ⟨w, hw, he⟩ := List.exists_of_findSome?_eq_some h
  split at he
  · split at he
    · rename_i hc
      obtain ⟨rfl, rfl⟩ := hc
      cases he
      exact hw
    · cases he
  · cases he
theorem pv_ml_spec {M idx : Nat} {y : MethodName} {o : Option String} (h : pv_ml M idx = some (y, o)) : (o = none ∧ Cond.methodLink (pv_own M) idx y ∈ lw_tbl) ∨ ∃ z, o = some z ∧ Cond.methodLinkNest (pv_own M) idx y z ∈ lw_tbl := by
  obtain ⟨w, hw, he⟩ := List.exists_of_findSome?_eq_some h
  split at he
  · split at he
    · rename_i hc
      obtain ⟨rfl, rfl⟩ := hc
      cases he
      exact Or.inl ⟨rfl, hw⟩
    · cases he
  · split at he
    · rename_i hc
      obtain ⟨rfl, rfl⟩ := hc
      cases he
      exact Or.inr ⟨_, rfl, hw⟩
    · cases he
  · cases he
theorem pv_lays_good (C : String) (T : u_T) (k : Nat) : goodWord (u_lay C T k) = true := by
  unfold u_lay
  split <;> rfl
theorem pv_cls_big {ci : Nat} {q : vw_C} (h : pv_cls[ci]? = some q) : ∀ w ∈ u_ws q.1 q.2.1 q.2.2, w ∈ pv_big := by
  intro w hw
  refine pv_bigmem ((pv_clsok ci q h).1 w hw) ?_
  obtain ⟨k, -, rfl⟩ := List.mem_map.mp hw
  exact pv_lays_good _ _ _
/-- cells -/
def pv_c (dA : Nat → ClassId) (e : pv_E) : va_E := match e with
  | .inl x => .inl (dA x.1, x.2)
  | .inr o => .inr o
def pv_R (dA : Nat → ClassId) (h : pv_H) (ws : va_W) : Prop := ∀ a e, h a = some e → ∃ k : Nat, ws[k]? = some (a, pv_c dA e)
theorem pv_R.set {dA : Nat → ClassId} {h : pv_H} {ws : va_W} {A : Nat → Prop} {a q0 : Nat} {e0 : va_E} {e : pv_E} (hR : pv_R dA h ws) (hD : va_D A ws) (h0 : ws[q0]? = some (a, e0)) : pv_R dA (pv_set h a e) (ws.set q0 (a, pv_c dA e)) := by
  have hl := (List.getElem?_eq_some_iff.mp h0).1
  intro b e' hb
  unfold pv_set at hb
  by_cases hba : b = a
  · rw [if_pos hba] at hb
    cases hb
    subst hba
    exact ⟨q0, List.getElem?_set_self hl⟩
  · rw [if_neg hba] at hb
    obtain ⟨k, hk⟩ := hR b e' hb
    refine ⟨k, ?_⟩
    rw [List.getElem?_set_ne (fun z => ?_)]
    · exact hk
    · subst z
      rw [h0] at hk
      cases hk
      exact hba rfl
theorem pv_in_spec {j : Int32} {n : Nat} (h : pv_in j n = true) : vp_in j n := by
  simp only [pv_in, Bool.and_eq_true, decide_eq_true_eq] at h
  intro z
  rcases z with z | z
  · exact h.1 z
  · omega
/-- what a method finds besides its cells -/
def pv_Wd (K adV : Nat → Nat) (dC : Nat → ClassId) (dI : Nat → Nat → Nat) (dA : Nat → ClassId) (A : Nat → Prop) (U : State) : Prop :=
  va_K (dC, dI) pv_cls (pv_tys dA) U ∧ vk_S 9 pv_len pv_byt K adV A U U.heap ∧ (∀ M idx k, pv_ks M idx = some k → ∃ tx, vk_R (pv_own M) idx tx (K k) U) ∧ (∀ o i y z, Cond.methodLinkNest o i y z ∈ lw_tbl → va_Nw (.methodLinkNest o i y z) U) ∧ va_Z "java/lang/String" "COMPACT_STRINGS" "Z" (.int 1) A U U.heap
def pv_Act (K adV : Nat → Nat) (dC : Nat → ClassId) (dI : Nat → Nat → Nat) (dA : Nat → ClassId) (A : Nat → Prop) (M : Nat) (p : Program) (s : State) (m : MethodId) (args : Array Value) (meth : Method) (c : Code) : Prop :=
  p.tables.exec = Jvm.exec ∧ c.code = pv_bc M ∧ meth.sig.returnType = pv_rt M ∧ meth.locks = false ∧ c.maxLocals = pv_mL M ∧ s.vm.findClass (pv_own M) = some m.cls ∧ (∀ w ∈ pv_big, w.before args s = true) ∧ pv_Wd K adV dC dI dA A s
end
section
theorem pv_sl21 : 21 < pv_ms.length ∧ pv_wsM 21 = Cond.code pv_sln (pv_bc 21) (pv_mL 21) (pv_rt 21) :: pv_big ∧ Cond.initialized "java/lang/String" ∈ lw_tbl ∧ pv_fr 21 + 1 ≤ 5 ∧ 8 + (pv_mL 21 + 11) + pv_lo 21 ≤ 110 ∧ Cond.instanceMethod pv_sln ∈ lw_tbl ∧ Cond.selects "java/lang/String" pv_sln pv_sln ∈ lw_tbl := by
  refine ⟨by decide +kernel, ?_, by decide +kernel, by decide +kernel, by decide +kernel, by decide +kernel, by decide +kernel⟩
  have : pv_y 21 = pv_sln := by decide +kernel
  unfold pv_wsM
  rw [this]
theorem pv_sl23 : 23 < pv_ms.length ∧ pv_wsM 23 = Cond.code pv_scn (pv_bc 23) (pv_mL 23) (pv_rt 23) :: pv_big ∧ pv_fr 23 + 1 ≤ 5 ∧ 8 + (pv_mL 23 + 11) + pv_lo 23 ≤ 110 ∧ Cond.instanceMethod pv_scn ∈ lw_tbl ∧ Cond.selects "java/lang/String" pv_scn pv_scn ∈ lw_tbl := by
  refine ⟨by decide +kernel, ?_, by decide +kernel, by decide +kernel, by decide +kernel, by decide +kernel⟩
  have : pv_y 23 = pv_scn := by decide +kernel
  unfold pv_wsM
  rw [this]
section SH
variable {p : Program} {l : Launch} {e : Env} {R : Room} {s : State} {m : MethodId} {args : Array Value} {below : List Frame} {meth : Method} {c : Code} {H : Heap} {locs : List Loc} {cells slots : Nat} {Q : State → Prop}
variable {K adV : Nat → Nat} {dC : Nat → ClassId} {dI : Nat → Nat → Nat} {dA : Nat → ClassId} {A : Nat → Prop} {M : Nat}
/-- the two members of String that the system calls, as they must be met -/
def pv_Str (l : Launch) (K adV : Nat → Nat) (dC : Nat → ClassId) (dI : Nat → Nat → Nat) (dA : Nat → ClassId) (A : Nat → Prop) : Prop :=
  (∀ k, k < 9 → Met l pv_sln (pv_wsM 21) (pv_rmM 21) (va_Pc [.ref (K k)] (pv_Wd K adV dC dI dA A)) (vp_Si (fun r => r = nI (pv_len.getD k 0))) 0 0 (fun _ => False)) ∧
  (∀ (k : Nat) (j : Int32), k < 9 → pv_in j (pv_len.getD k 0) = true → Met l pv_scn (pv_wsM 23) (pv_rmM 23) (va_Pc [.ref (K k), .int j] (pv_Wd K adV dC dI dA A)) (vp_Si (fun r => r = (pv_byt.getD k []).getD j.toNatClampNeg 0 &&& 255)) 0 0 (fun _ => False))
theorem pv_Wd.at {s U : State} (h : pv_Wd K adV dC dI dA A s) (hS : va_S A s.heap H locs) (hU : U.heap = H) (hW : s.WarmedH U.vm) : pv_Wd K adV dC dI dA A U := by
  obtain ⟨h1, h2, h3, h4, h5⟩ := h
  subst hU
  exact ⟨va_K.moved hW.alike h1, (h2.kept (fun a q1 q2 => hS.2.1 a q1 q2)).moved hW.alike, fun M idx k q => (h3 M idx k q).elim fun tx z => ⟨tx, z.warm hW⟩, fun o i y z q => va_Nw.warmM hW (h4 o i y z q), (h5.kept (fun a q1 q2 => hS.2.1 a q1 q2)).moved hW.alike⟩
theorem pv_Wd.blind (as : List Value) : FrameBlind (va_Pc as (pv_Wd K adV dC dI dA A)) := by
  intro a U g mk q
  obtain ⟨q0, q1, q2, q3, q4, q5⟩ := q
  exact ⟨q0, va_K.moved (u := U) (U := U.calling g mk a) (Vm.Alike.refl U.vm) q1, vk_S.moved (u := U) (U := U.calling g mk a) (Vm.Alike.refl U.vm) q2, fun M idx k z => (q3 M idx k z).elim fun tx w => ⟨tx, vk_R.same (u := U) (U := U.calling g mk a) rfl w⟩, fun o i y z w => va_Nw.same (u := U) (U := U.calling g mk a) rfl rfl (q4 o i y z w), va_Z.moved (u := U) (U := U.calling g mk a) (Vm.Alike.refl U.vm) q5⟩
/-- behind a call that leaves the cells -/
theorem pv_callS {r0 : Int32} {pc : Nat} {ls : Array Slot} {rest st0 : List Value} {a : Array Value} (hr : va_Run p l e R s m args below meth c H locs cells slots 0 0 (F0 m pc ls st0) rest (vp_Si (fun r => r = r0) a) (fun _ => False)) (kk : W p l e R s m args below meth c H locs cells slots Q (F0 m (pc + 3) ls (.int r0 :: rest))) : W p l e R s m args below meth c H locs cells slots Q (F0 m pc ls st0) := by
  intro T hT X
  obtain ⟨v, st₀, t, T', L, h0, X', hL, e1, e2, ⟨r, hv, hp, hb⟩, st⟩ := hr T hT X
  cases hv
  subst hp
  have hLn : L = [] := by
    cases L with
    | nil => rfl
    | cons q L => exact (hL q List.mem_cons_self).elim
  subst hLn
  rw [List.append_nil] at X'
  obtain ⟨t2, a1, b1⟩ := kk T' (by rw [e1, hb, h0]) X'
  exact ⟨t2, st t2 a1, b1⟩
theorem pv_si_spec {b k : Nat} (h : pv_si K b = some k) : k < 9 ∧ K k = b := by
  have h1 := List.find?_some h
  have h2 := List.mem_of_find?_eq_some h
  simp only [decide_eq_true_eq] at h1
  exact ⟨List.mem_range.mp h2, h1⟩
theorem pv_GoodIn {M M' : Nat} (h : M' < pv_ms.length) : GoodIn (pv_wsM M) (pv_wsM M') := by
  intro w hw
  rcases List.mem_cons.mp hw with rfl | hw
  · obtain ⟨q, hq⟩ : ∃ q, pv_ms[M']? = some q := ⟨_, List.getElem?_eq_getElem h⟩
    have hm := List.mem_of_getElem? hq
    obtain ⟨w, hw1, hw2⟩ := List.mem_filterMap.mp hm
    split at hw2
    · rename_i y cd n rt
      cases hw2
      have : Cond.code (pv_y M') (pv_bc M') (pv_mL M') (pv_rt M') = Cond.code y cd n rt := by
        simp only [pv_y, pv_bc, pv_mL, pv_rt, hq]
      rw [this]
      exact ⟨List.mem_cons_of_mem _ (pv_bigmem (List.mem_append_right _ hw1) rfl), Or.inl rfl⟩
    · cases hw2
  · exact ⟨List.mem_cons_of_mem _ hw, good_of_word (List.mem_filter.mp hw).2⟩
set_option maxHeartbeats 8000000 in
set_option maxRecDepth 20000 in
theorem pv_simH {pc pc' len : Nat} {f : pv_F} {st st' : List Value} {i : Instr} {ls : Array Slot} {h h' : pv_H} {ws : va_W} (hStr : pv_Str l K adV dC dI dA A) (hAct : pv_Act K adV dC dI dA A M p s m args meth c) (hfr : R.frames = pv_fr M) (hlo : R.locals = pv_lo M) (hrc : R.cells = 0) (hrs : R.slots = 0) (hdg : decode (pv_bc M) pc = .ok (i, len)) (hlen : pv_ln i len = true) (hs : pv_sh K M pc i st h = some (pc', st', h')) (hl : pv_L f ls (pv_mL M)) (hR : pv_R dA h ws) (hP : va_P (dC, dI) pv_cls ws H) (hD : va_D A ws) (hS : va_S A s.heap H locs) (hts : ∀ w ∈ pv_wsM M, w.before args s = true)
    (k : ∀ (H' : Heap) (locs' : List Loc) (ws' : va_W), pv_R dA h' ws' → va_P (dC, dI) pv_cls ws' H' → va_D A ws' → va_S A s.heap H' locs' → W p l e R s m args below meth c H' locs' 0 0 Q (F0 m pc' ls st')) : W p l e R s m args below meth c H locs 0 0 Q (F0 m pc ls st) := by
  obtain ⟨hx, hb, hr, hlk, hml, hown, hbig, hWd⟩ := id hAct
  have hK := hWd.1
  cases i with
  | getfield idx =>
    obtain rfl : len = 3 := by simpa [pv_ln] using hlen
    unfold pv_sh at hs
    dsimp only at hs
    split at hs
    · split at hs
      · rename_i ci kf hg
        split at hs
        · rename_i cj fs ha
          split at hs
          · rename_i hcc
            subst hcc
            split at hs
            · rename_i v hv
              simp only [Option.some.injEq, Prod.mk.injEq] at hs
              obtain ⟨rfl, rfl, rfl⟩ := hs
              obtain ⟨q, hq, hkf, hlink⟩ := pv_gf_spec hg
              obtain ⟨q0, h0⟩ := hR _ _ ha
              exact va_get (D := (dC, dI)) (C := q.1) (T := q.2.1) (N := q.2.2) hx hb hbig (pv_cls_big hq) hown hK hP q0 h0 hq kf hkf (hbig _ (pv_bigmem hlink rfl)) (fun _ z => z) hv hdg (k H locs ws hR hP hD hS)
            · cases hs
          · cases hs
        · cases hs
      · cases hs
    · cases hs
  | putfield idx =>
    obtain rfl : len = 3 := by simpa [pv_ln] using hlen
    unfold pv_sh at hs
    dsimp only at hs
    split at hs
    · split at hs
      · rename_i ci kf hg
        split at hs
        · rename_i cj fs ha
          split at hs
          · rename_i q hq
            split at hs
            · rename_i ty hty
              split at hs
              · rename_i hcc
                obtain ⟨rfl, hfin, hnar, hfit, hkl, -⟩ := hcc
                simp only [Option.some.injEq, Prod.mk.injEq] at hs
                obtain ⟨rfl, rfl, rfl⟩ := hs
                obtain ⟨q', hq', hkf, hlink⟩ := pv_gf_spec hg
                cases hq.symm.trans hq'
                obtain ⟨q0, h0⟩ := hR _ _ ha
                obtain ⟨-, hnm, ty0, hty0⟩ := pv_clsok _ _ hq
                exact va_put (D := (dC, dI)) (C := q.1) (T := q.2.1) (N := q.2.2) hx hb hbig (pv_cls_big hq) ty0 hty0 hnm hown hK hP hD hS q0 h0 hq kf hkf (hbig _ (pv_bigmem hlink rfl)) (fun _ z => z) hfin hty hnar hfit hkl hdg (fun H1 locs1 hP1 hD1 hS1 => k H1 locs1 _ (hR.set hD h0) hP1 hD1 hS1)
              · cases hs
            · cases hs
          · cases hs
        · cases hs
      · cases hs
    · cases hs
  | iaload =>
    obtain rfl : len = 1 := by simpa [pv_ln] using hlen
    unfold pv_sh at hs
    dsimp only at hs
    split at hs
    · split at hs
      · rename_i n g ha
        split at hs
        · rename_i hin
          simp only [Option.some.injEq, Prod.mk.injEq] at hs
          obtain ⟨rfl, rfl, rfl⟩ := hs
          obtain ⟨q0, h0⟩ := hR _ _ ha
          exact va_iald (D := (dC, dI)) hx hb hK hP q0 0 h0 rfl (pv_in_spec hin) hdg (k H locs ws hR hP hD hS)
        · cases hs
      · cases hs
    · cases hs
  | laload =>
    obtain rfl : len = 1 := by simpa [pv_ln] using hlen
    unfold pv_sh at hs
    dsimp only at hs
    split at hs
    · split at hs
      · rename_i n g ha
        split at hs
        · rename_i hin
          simp only [Option.some.injEq, Prod.mk.injEq] at hs
          obtain ⟨rfl, rfl, rfl⟩ := hs
          obtain ⟨q0, h0⟩ := hR _ _ ha
          exact va_lald (D := (dC, dI)) hx hb hK hP q0 1 h0 rfl (pv_in_spec hin) hdg (k H locs ws hR hP hD hS)
        · cases hs
      · cases hs
    · cases hs
  | baload =>
    obtain rfl : len = 1 := by simpa [pv_ln] using hlen
    unfold pv_sh at hs
    dsimp only at hs
    split at hs
    · split at hs
      · rename_i n g ha
        split at hs
        · rename_i hin
          simp only [Option.some.injEq, Prod.mk.injEq] at hs
          obtain ⟨rfl, rfl, rfl⟩ := hs
          obtain ⟨q0, h0⟩ := hR _ _ ha
          exact va_bald (D := (dC, dI)) hx hb hK hP q0 2 h0 rfl (pv_in_spec hin) hdg (k H locs ws hR hP hD hS)
        · cases hs
      · rename_i n g ha
        split at hs
        · rename_i hin
          simp only [Option.some.injEq, Prod.mk.injEq] at hs
          obtain ⟨rfl, rfl, rfl⟩ := hs
          obtain ⟨q0, h0⟩ := hR _ _ ha
          exact va_zald (D := (dC, dI)) hx hb hK hP q0 3 h0 rfl (pv_in_spec hin) hdg (k H locs ws hR hP hD hS)
        · cases hs
      · cases hs
    · cases hs
  | aaload =>
    obtain rfl : len = 1 := by simpa [pv_ln] using hlen
    unfold pv_sh at hs
    dsimp only at hs
    split at hs
    · split at hs
      · rename_i n g ha
        split at hs
        · rename_i hin
          simp only [Option.some.injEq, Prod.mk.injEq] at hs
          obtain ⟨rfl, rfl, rfl⟩ := hs
          obtain ⟨q0, h0⟩ := hR _ _ ha
          exact va_aldq (D := (dC, dI)) hx hb hK hP q0 4 h0 rfl (pv_in_spec hin) hdg (k H locs ws hR hP hD hS)
        · cases hs
      · rename_i n g ha
        split at hs
        · rename_i hin
          simp only [Option.some.injEq, Prod.mk.injEq] at hs
          obtain ⟨rfl, rfl, rfl⟩ := hs
          obtain ⟨q0, h0⟩ := hR _ _ ha
          exact va_aldq (D := (dC, dI)) hx hb hK hP q0 5 h0 rfl (pv_in_spec hin) hdg (k H locs ws hR hP hD hS)
        · cases hs
      · cases hs
    · cases hs
  | iastore =>
    obtain rfl : len = 1 := by simpa [pv_ln] using hlen
    unfold pv_sh at hs
    dsimp only at hs
    split at hs
    · split at hs
      · rename_i n g ha
        split at hs
        · rename_i hin
          simp only [Option.some.injEq, Prod.mk.injEq] at hs
          obtain ⟨rfl, rfl, rfl⟩ := hs
          obtain ⟨q0, h0⟩ := hR _ _ ha
          exact va_iast (D := (dC, dI)) hx hb hK hP hD hS q0 0 h0 rfl (pv_in_spec hin) hdg (fun H1 locs1 hP1 hD1 hS1 => k H1 locs1 _ (hR.set hD h0) hP1 hD1 hS1)
        · cases hs
      · cases hs
    · cases hs
  | lastore =>
    obtain rfl : len = 1 := by simpa [pv_ln] using hlen
    unfold pv_sh at hs
    dsimp only at hs
    split at hs
    · split at hs
      · rename_i n g ha
        split at hs
        · rename_i hin
          simp only [Option.some.injEq, Prod.mk.injEq] at hs
          obtain ⟨rfl, rfl, rfl⟩ := hs
          obtain ⟨q0, h0⟩ := hR _ _ ha
          exact va_last (D := (dC, dI)) hx hb hK hP hD hS q0 1 h0 rfl (pv_in_spec hin) hdg (fun H1 locs1 hP1 hD1 hS1 => k H1 locs1 _ (hR.set hD h0) hP1 hD1 hS1)
        · cases hs
      · cases hs
    · cases hs
  | bastore =>
    obtain rfl : len = 1 := by simpa [pv_ln] using hlen
    unfold pv_sh at hs
    dsimp only at hs
    split at hs
    · split at hs
      · rename_i n g ha
        split at hs
        · rename_i hin
          simp only [Option.some.injEq, Prod.mk.injEq] at hs
          obtain ⟨rfl, rfl, rfl⟩ := hs
          obtain ⟨q0, h0⟩ := hR _ _ ha
          exact va_bast (D := (dC, dI)) hx hb hK hP hD hS q0 2 h0 rfl (pv_in_spec hin) hdg (fun H1 locs1 hP1 hD1 hS1 => k H1 locs1 _ (hR.set hD h0) hP1 hD1 hS1)
        · cases hs
      · rename_i n g ha
        split at hs
        · rename_i hin
          simp only [Option.some.injEq, Prod.mk.injEq] at hs
          obtain ⟨rfl, rfl, rfl⟩ := hs
          obtain ⟨q0, h0⟩ := hR _ _ ha
          exact va_zast (D := (dC, dI)) hx hb hK hP hD hS q0 3 h0 rfl (pv_in_spec hin) hdg (fun H1 locs1 hP1 hD1 hS1 => k H1 locs1 _ (hR.set hD h0) hP1 hD1 hS1)
        · cases hs
      · cases hs
    · cases hs
  | arraylength =>
    obtain rfl : len = 1 := by simpa [pv_ln] using hlen
    unfold pv_sh at hs
    dsimp only at hs
    split at hs
    · split at hs
      · rename_i x ha
        simp only [Option.some.injEq, Prod.mk.injEq] at hs
        obtain ⟨rfl, rfl, rfl⟩ := hs
        obtain ⟨q0, h0⟩ := hR _ _ ha
        exact va_alen (D := (dC, dI)) hx hb hK hP q0 0 h0 (ty := .int) rfl rfl hdg (k H locs ws hR hP hD hS)
      · rename_i x ha
        simp only [Option.some.injEq, Prod.mk.injEq] at hs
        obtain ⟨rfl, rfl, rfl⟩ := hs
        obtain ⟨q0, h0⟩ := hR _ _ ha
        exact va_alen (D := (dC, dI)) hx hb hK hP q0 1 h0 (ty := .long) rfl rfl hdg (k H locs ws hR hP hD hS)
      · cases hs
    · cases hs
  | ldc idx =>
    obtain rfl : len = 2 := by simpa [pv_ln] using hlen
    unfold pv_sh at hs
    dsimp only at hs
    split at hs
    · rename_i v hv
      simp only [Option.some.injEq, Prod.mk.injEq] at hs
      obtain ⟨rfl, rfl, rfl⟩ := hs
      exact lv_ldc hx hb hown (hbig _ (pv_bigmem (pv_kc_spec hv) rfl)) hdg (k H locs ws hR hP hD hS)
    · split at hs
      · rename_i q hq
        simp only [Option.some.injEq, Prod.mk.injEq] at hs
        obtain ⟨rfl, rfl, rfl⟩ := hs
        obtain ⟨tx, hz⟩ := hWd.2.2.1 _ _ _ hq
        exact va_ldcS hx hb hown hz hdg (k H locs ws hR hP hD hS)
      · cases hs
  | ldc_w idx =>
    obtain rfl : len = 3 := by simpa [pv_ln] using hlen
    unfold pv_sh at hs
    dsimp only at hs
    split at hs
    · rename_i v hv
      simp only [Option.some.injEq, Prod.mk.injEq] at hs
      obtain ⟨rfl, rfl, rfl⟩ := hs
      exact lv_ldcw hx hb hown (hbig _ (pv_bigmem (pv_kc_spec hv) rfl)) hdg (k H locs ws hR hP hD hS)
    · cases hs
  | ldc2_w idx =>
    obtain rfl : len = 3 := by simpa [pv_ln] using hlen
    unfold pv_sh at hs
    dsimp only at hs
    split at hs
    · rename_i v hv
      simp only [Option.some.injEq, Prod.mk.injEq] at hs
      obtain ⟨rfl, rfl, rfl⟩ := hs
      exact lv_ldc2 hx hb hown (hbig _ (pv_bigmem (pv_kd_spec hv) rfl)) hdg (k H locs ws hR hP hD hS)
    · cases hs
  | invokevirtual idx =>
    obtain rfl : len = 3 := by simpa [pv_ln] using hlen
    unfold pv_sh at hs
    dsimp only at hs
    split at hs
    · rename_i y hy
      have hlink : (Cond.methodLink (pv_own M) idx y).before args s = true := by
        rcases pv_ml_spec hy with ⟨-, z⟩ | ⟨z, z1, -⟩
        · exact hbig _ (pv_bigmem z rfl)
        · cases z1
      split at hs
      · rename_i hyl
        subst hyl
        split at hs
        · split at hs
          · rename_i q hq
            split at hs
            · rename_i hok
              simp only [Option.some.injEq, Prod.mk.injEq] at hs
              obtain ⟨rfl, rfl, rfl⟩ := hs
              obtain ⟨hq9, rfl⟩ := pv_si_spec hq
              simp only [pv_okL, Bool.and_eq_true, decide_eq_true_eq] at hok
              have cb : CallB R s args (pv_own M) idx pv_sln (pv_bc 21) (pv_mL 21) (pv_rt 21) (pv_wsM 21) (pv_rmM 21) 0 0 0 := callB_of 0 hts (pv_GoodIn pv_sl21.1) pv_sl21.2.1 rfl rfl (hbig _ (pv_bigmem pv_sl21.2.2.1 rfl)) hlink (by decide +kernel) ⟨by rw [hfr]; exact Nat.le_trans pv_sl21.2.2.2.1 hok.1.1, by rw [hlo]; exact Nat.le_trans pv_sl21.2.2.2.2.1 hok.1.2⟩
              exact pv_callS (va_runV (As := []) ⟨hx, hb, hml, hown, hts⟩ (hStr.1 q hq9) ⟨cb, hbig _ (pv_bigmem pv_sl21.2.2.2.2.2.1 rfl), hbig _ (pv_bigmem pv_sl21.2.2.2.2.2.2 rfl)⟩ ⟨pv_Wd.blind _, vk_recv hWd.2.1 hq9 hS, fun U hU hW => ⟨rfl, hWd.at hS hU hW⟩⟩ rfl rfl hl.1 rfl (lv_room hok.2) hdg ⟨by omega, by omega⟩) (k H locs ws hR hP hD hS)
            · cases hs
          · cases hs
        · cases hs
      · split at hs
        · rename_i hyl
          subst hyl
          split at hs
          · split at hs
            · rename_i q hq
              split at hs
              · rename_i hok
                simp only [Option.some.injEq, Prod.mk.injEq] at hs
                obtain ⟨rfl, rfl, rfl⟩ := hs
                obtain ⟨hq9, rfl⟩ := pv_si_spec hq
                simp only [pv_okL, Bool.and_eq_true, decide_eq_true_eq] at hok
                have cb : CallB R s args (pv_own M) idx pv_scn (pv_bc 23) (pv_mL 23) (pv_rt 23) (pv_wsM 23) (pv_rmM 23) 0 0 1 := callB_of 1 hts (pv_GoodIn pv_sl23.1) pv_sl23.2.1 rfl rfl (hbig _ (pv_bigmem pv_sl21.2.2.1 rfl)) hlink (by decide +kernel) ⟨by rw [hfr]; exact Nat.le_trans pv_sl23.2.2.1 hok.1.1, by rw [hlo]; exact Nat.le_trans pv_sl23.2.2.2.1 hok.1.2⟩
                exact pv_callS (va_runV (As := [.int _]) ⟨hx, hb, hml, hown, hts⟩ (hStr.2 q _ hq9 hok.2.2) ⟨cb, hbig _ (pv_bigmem pv_sl23.2.2.2.2.1 rfl), hbig _ (pv_bigmem pv_sl23.2.2.2.2.2 rfl)⟩ ⟨pv_Wd.blind _, vk_recv hWd.2.1 hq9 hS, fun U hU hW => ⟨rfl, hWd.at hS hU hW⟩⟩ rfl rfl hl.1 rfl (lv_room hok.2.1) hdg ⟨by omega, by omega⟩) (k H locs ws hR hP hD hS)
              · cases hs
            · cases hs
          · cases hs
        · cases hs
    · cases hs
  | invokestatic idx =>
    obtain rfl : len = 3 := by simpa [pv_ln] using hlen
    unfold pv_sh at hs
    dsimp only at hs
    split at hs
    · rename_i y hy
      have hlink : (Cond.methodLink (pv_own M) idx y).before args s = true := by
        rcases pv_ml_spec hy with ⟨-, z⟩ | ⟨z, z1, -⟩
        · exact hbig _ (pv_bigmem z rfl)
        · cases z1
      split at hs
      · rename_i hyl
        obtain ⟨rfl, hokC⟩ := hyl
        simp only [pv_okC, Bool.and_eq_true, decide_eq_true_eq] at hokC
        obtain ⟨⟨⟨⟨hc1, hc2⟩, hc3⟩, hc4⟩, hc5⟩ := hokC
        have hnw : nativeFrameWords "java/lang/System" "arraycopy" 5 = 7 := by decide +kernel
        split at hs
        · split at hs
          · rename_i hcc
            obtain ⟨hsum, hsp, hdp, hn0⟩ := hcc
            split at hs
            · rename_i n0 f0 n1 g0 ha0 ha
              split at hs
              · rename_i hle
                simp only [Option.some.injEq, Prod.mk.injEq] at hs
                obtain ⟨rfl, rfl, rfl⟩ := hs
                obtain ⟨q0, h0⟩ := hR _ _ ha0
                obtain ⟨q1, h1⟩ := hR _ _ ha
                exact va_copyi (D := (dC, dI)) hx hb (by rw [hml, hl.1]) hown hlink (hbig _ (pv_bigmem hc1 rfl)) (hbig _ (pv_bigmem hc2 rfl)) (hbig _ (pv_bigmem hc3 rfl)) hK hP hD hS q0 q1 0 0 h0 h1 rfl rfl rfl hsp hdp hn0 hle.1 hle.2 (fun _ _ => rfl) (by rw [hfr]; exact hc4) (by rw [hlo, hnw]; omega) hdg (fun H1 locs1 hP1 hD1 hS1 => k H1 locs1 _ (hR.set hD h1) hP1 hD1 hS1)
              · cases hs
            · rename_i n0 f0 n1 g0 ha0 ha
              split at hs
              · rename_i hle
                simp only [Option.some.injEq, Prod.mk.injEq] at hs
                obtain ⟨rfl, rfl, rfl⟩ := hs
                obtain ⟨q0, h0⟩ := hR _ _ ha0
                obtain ⟨q1, h1⟩ := hR _ _ ha
                exact va_copyl (D := (dC, dI)) hx hb (by rw [hml, hl.1]) hown hlink (hbig _ (pv_bigmem hc1 rfl)) (hbig _ (pv_bigmem hc2 rfl)) (hbig _ (pv_bigmem hc3 rfl)) hK hP hD hS q0 q1 1 1 h0 h1 rfl rfl rfl hsp hdp hn0 hle.1 hle.2 (fun _ _ => rfl) (by rw [hfr]; exact hc4) (by rw [hlo, hnw]; omega) hdg (fun H1 locs1 hP1 hD1 hS1 => k H1 locs1 _ (hR.set hD h1) hP1 hD1 hS1)
              · cases hs
            · cases hs
          · cases hs
        · cases hs
      · split at hs
        · rename_i hyl
          obtain ⟨rfl, hokM⟩ := hyl
          simp only [pv_okM, Bool.and_eq_true, decide_eq_true_eq] at hokM
          obtain ⟨⟨⟨⟨hc1, hc2⟩, hc3⟩, hc4⟩, hc5⟩ := hokM
          split at hs
          · split at hs
            · rename_i hsum
              simp only [Option.some.injEq, Prod.mk.injEq] at hs
              obtain ⟨rfl, rfl, rfl⟩ := hs
              exact va_mmax hx hb (by rw [hml, hl.1]) hown hlink (hbig _ (pv_bigmem hc1 rfl)) (hbig _ (pv_bigmem hc2 rfl)) (hbig _ (pv_bigmem hc3 rfl)) (by rw [hfr]; exact hc4) (by rw [hlo]; omega) (by omega) (by omega) hdg (k H locs ws hR hP hD hS)
            · cases hs
          · cases hs
        · split at hs
          · rename_i hyl
            obtain ⟨rfl, hokM⟩ := hyl
            simp only [pv_okM, Bool.and_eq_true, decide_eq_true_eq] at hokM
            obtain ⟨⟨⟨⟨hc1, hc2⟩, hc3⟩, hc4⟩, hc5⟩ := hokM
            split at hs
            · split at hs
              · rename_i hsum
                simp only [Option.some.injEq, Prod.mk.injEq] at hs
                obtain ⟨rfl, rfl, rfl⟩ := hs
                exact va_mmin hx hb (by rw [hml, hl.1]) hown hlink (hbig _ (pv_bigmem hc1 rfl)) (hbig _ (pv_bigmem hc2 rfl)) (hbig _ (pv_bigmem hc3 rfl)) (by rw [hfr]; exact hc4) (by rw [hlo]; omega) (by omega) (by omega) hdg (k H locs ws hR hP hD hS)
              · cases hs
            · cases hs
          · split at hs
            · rename_i hyl
              obtain ⟨rfl, hokM⟩ := hyl
              simp only [pv_okM, Bool.and_eq_true, decide_eq_true_eq] at hokM
              obtain ⟨⟨⟨⟨hc1, hc2⟩, hc3⟩, hc4⟩, hc5⟩ := hokM
              split at hs
              · split at hs
                · rename_i hsum
                  simp only [Option.some.injEq, Prod.mk.injEq] at hs
                  obtain ⟨rfl, rfl, rfl⟩ := hs
                  exact va_mabs_long hx hb (by rw [hml, hl.1]) hown hlink (hbig _ (pv_bigmem hc1 rfl)) (hbig _ (pv_bigmem hc2 rfl)) (hbig _ (pv_bigmem hc3 rfl)) (by rw [hfr]; exact hc4) (by rw [hlo]; omega) (by omega) (by omega) hdg (k H locs ws hR hP hD hS)
                · cases hs
              · cases hs
            · cases hs
    · cases hs
  | _ =>
    unfold pv_sh at hs
    dsimp only at hs
    cases hs
end SH
end
section
section SM
variable {K adV : Nat → Nat} {dC : Nat → ClassId} {dI : Nat → Nat → Nat} {dA : Nat → ClassId} {A : Nat → Prop}
/-- a method's start and end, over the plain cells -/
def pv_Pc (K adV : Nat → Nat) (dC : Nat → ClassId) (dI : Nat → Nat → Nat) (dA : Nat → ClassId) (A : Nat → Prop) (as : List Value) (ws : va_W) : Array Value → State → Prop := va_Pc as (fun U => va_P (dC, dI) pv_cls ws U.heap ∧ va_D A ws ∧ pv_Wd K adV dC dI dA A U)
def pv_Q (dC : Nat → ClassId) (dI : Nat → Nat → Nat) (dA : Nat → ClassId) (A : Nat → Prop) (r : Option Value) (h' : pv_H) : Array Value → State → Outcome → State → Prop := fun _ st oc t => (∃ u : va_W, oc = .returned r ∧ pv_R dA h' u ∧ va_P (dC, dI) pv_cls u t.heap ∧ va_D A u) ∧ va_F A st t
theorem pv_Pc.blind (as : List Value) (ws : va_W) : FrameBlind (pv_Pc K adV dC dI dA A as ws) := by
  intro a U g mk q
  obtain ⟨q0, q1, q2, q3⟩ := q
  exact ⟨q0, q1, q2, (pv_Wd.blind as a U g mk ⟨q0, q3⟩).2⟩
theorem pv_callM {p : Program} {l : Launch} {e : Env} {R : Room} {s : State} {m : MethodId} {args : Array Value} {below : List Frame} {meth : Method} {c : Code} {H : Heap} {locs : List Loc} {Q : State → Prop} {r : Option Value} {h' : pv_H} {pc : Nat} {ls : Array Slot} {rest st0 : List Value} {a : Array Value} (hr : va_Run p l e R s m args below meth c H locs 0 0 0 0 (F0 m pc ls st0) rest (pv_Q dC dI dA A r h' a) A) (hS : va_S A s.heap H locs)
    (kk : ∀ (H1 : Heap) (locs1 : List Loc) (u : va_W), pv_R dA h' u → va_P (dC, dI) pv_cls u H1 → va_D A u → va_S A s.heap H1 locs1 → W p l e R s m args below meth c H1 locs1 0 0 Q (F0 m (pc + 3) ls (r.toList ++ rest))) : W p l e R s m args below meth c H locs 0 0 Q (F0 m pc ls st0) := by
  intro T hT X
  obtain ⟨v, st₀, t, T', L, h0, X', hL, e1, e2, ⟨⟨u, hv, hu1, hu2, hu3⟩, hz, hk⟩, st⟩ := hr T hT X
  cases hv
  rw [h0] at hz hk
  obtain ⟨t2, a1, b1⟩ := kk T'.heap (locs ++ L) u hu1 (by rw [e1]; exact hu2) hu3
    ⟨Nat.le_trans hS.1 (by rw [e1]; exact hz), fun q h1 h2 => by rw [e1, hk q (Nat.lt_of_lt_of_le h1 hS.1) h2]; exact hS.2.1 q h1 h2, fun q hq => by
      rcases List.mem_append.mp hq with h | h
      · exact hS.2.2 q h
      · exact hL q h⟩ T' rfl X'
  exact ⟨t2, st t2 a1, b1⟩
theorem pv_es_sl : ∀ (as : List Value) (i : Nat) (v : Value), (pv_es as)[i]? = some (some v) → (lg_sl as)[i]? = some (.val v) := by
  intro as
  induction as with
  | nil => intro i v h; cases h
  | cons w as ih =>
    intro i v h
    unfold pv_es at h
    have e : lg_sl (w :: as) = (if w.category = 2 then [Slot.val w, Slot.second] else [Slot.val w]) ++ lg_sl as := by simp [lg_sl]
    rw [e]
    split at h
    · rename_i hc
      rw [if_pos hc]
      match i, h with
      | 0, h => simp only [List.getElem?_cons_zero, Option.some.injEq] at h; subst h; rfl
      | 1, h => simp at h
      | i + 2, h =>
        simp only [List.getElem?_cons_succ] at h
        simpa using ih i v h
    · rename_i hc
      rw [if_neg hc]
      match i, h with
      | 0, h => simp only [List.getElem?_cons_zero, Option.some.injEq] at h; subst h; rfl
      | i + 1, h =>
        simp only [List.getElem?_cons_succ] at h
        simpa using ih i v h
theorem pv_L.entry (as : List Value) {n : Nat} (h : (lg_sl as).length ≤ n) : pv_L (pv_en as) ((lg_sl as ++ List.replicate (n - (lg_sl as).length) Slot.unset).toArray) n := by
  have h1 := lv_entry as h
  refine ⟨h1.1, h1.2.1, fun i v hv => ?_⟩
  unfold pv_en pv_fl at hv
  split at hv
  · rename_i o ho
    subst hv
    have h2 := pv_es_sl as i v ho
    have h3 := (List.getElem?_eq_some_iff.mp h2).1
    rw [List.getElem?_toArray, List.getElem?_append_left h3]
    exact h2
  · cases hv
theorem pv_ix_spec {y : MethodName} {M : Nat} (h : pv_ix y = some M) : pv_y M = y := by
  obtain ⟨q, hq, hd⟩ : ∃ q, pv_ms[M]? = some q ∧ q.1 = y := by
    have h1 := List.findIdx?_eq_some_iff_getElem.mp h
    obtain ⟨hl, hd, -⟩ := h1
    simp only [decide_eq_true_eq] at hd
    exact ⟨_, List.getElem?_eq_getElem hl, hd⟩
  simp only [pv_y, hq]
  exact hd
theorem pv_dec_spec {M pc : Nat} {q : Instr × Nat} (h : pv_dec M pc = some q) : decode (pv_bc M) pc = .ok q := by
  unfold pv_dec at h
  split at h
  · rename_i z hz
    cases h
    exact hz
  · cases h
/-- what the real machine does where the plain one comes to its end: a frame's rest -/
def pv_Sim (l : Launch) (K adV : Nat → Nat) (dC : Nat → ClassId) (dI : Nat → Nat → Nat) (dA : Nat → ClassId) (A : Nat → Prop) (n : Nat) : Prop :=
  ∀ (M pc : Nat) (f : pv_F) (st : List Value) (h : pv_H) (r : Option Value) (h' : pv_H), pv_ev K n M pc f st h = some (r, h') → ∀ (p : Program) (e : Env) (s : State) (m : MethodId) (args : Array Value) (below : List Frame) (meth : Method) (c : Code) (H : Heap) (locs : List Loc) (ls : Array Slot) (ws : va_W), pv_Act K adV dC dI dA A M p s m args meth c → (∀ w ∈ pv_wsM M, w.before args s = true) → pv_L f ls (pv_mL M) → pv_R dA h ws → va_P (dC, dI) pv_cls ws H → va_D A ws → va_S A s.heap H locs →
    W p l e (headSpec (pv_wsM M) (pv_rmM M)).room s m args below meth c H locs 0 0 (MQ below (pv_Q dC dI dA A r h') args s 0 0 A) (F0 m pc ls st)
theorem pv_met_of {l : Launch} {n : Nat} (hSim : pv_Sim l K adV dC dI dA A n) {M : Nat} {as : List Value} {h : pv_H} {r : Option Value} {h' : pv_H} {ws : va_W} (hev : pv_ev K n M 0 (pv_en as) [] h = some (r, h')) (hplain : plainName (pv_y M).cls = true) (hlen : (lg_sl as).length ≤ pv_mL M) (hR : pv_R dA h ws) : Met l (pv_y M) (pv_wsM M) (pv_rmM M) (pv_Pc K adV dC dI dA A as ws) (pv_Q dC dI dA A r h') 0 0 A := by
  refine Met.ofW (cc := pv_bc M) (maxL := pv_mL M) (ret := pv_rt M) hplain rfl ?_
  intro p e s m args below meth c s₁ B hml hv
  obtain ⟨rfl, hP, hD, hWd⟩ := hv
  have hts := atoms_spec (ws := pv_wsM M) B.pre
  rw [lg_entry_eq]
  exact hSim M 0 (pv_en as) [] h r h' hev p e s m _ below meth c s.heap [] _ ws ⟨B.exec, B.bytes, B.returns, B.notSynchronized, hml, findClass_of_methodNamed B.named, fun w hw => hts w (List.mem_cons_of_mem _ hw), hWd⟩ hts (pv_L.entry as hlen) hR hP hD va_S.rf
set_option maxHeartbeats 4000000 in
theorem pv_sim {l : Launch} (hStr : pv_Str l K adV dC dI dA A) : ∀ n, pv_Sim l K adV dC dI dA A n := by
  intro n
  induction n with
  | zero => intro M pc f st h r h' hev; cases hev
  | succ n ih =>
    intro M pc f st h r h' hev p e s m args below meth c H locs ls ws hAct hts hl hR hP hD hS
    obtain ⟨hx, hb, hr, hlk, hml, hown, hbig, hWd⟩ := id hAct
    rw [pv_ev] at hev
    split at hev
    · cases hev
    · rename_i i len hd
      have hdg := pv_dec_spec hd
      split at hev
      · rename_i hlen
        split at hev
        · rename_i pc' f' st' hs
          exact pv_simP hx hb hdg hlen hs hl (fun ls' hl' => ih _ _ _ _ _ _ _ hev p e s m args below meth c H locs ls' ws hAct hts hl' hR hP hD hS)
        · split at hev
          · rename_i pc' st' h'' hs
            exact pv_simH hStr hAct rfl rfl rfl rfl hdg hlen hs hl hR hP hD hS hts (fun H' locs' ws' hR' hP' hD' hS' => ih _ _ _ _ _ _ _ hev p e s m args below meth c H' locs' ls ws' hAct hts hl hR' hP' hD' hS')
          · split at hev
            · rename_i rr hs
              cases hev
              unfold pv_re at hs
              split at hs
              · obtain rfl : len = 1 := by simpa [pv_ln] using hlen
                split at hs
                · split at hs
                  · rename_i hrt
                    cases hs
                    exact W.iret hx hb (hr.trans hrt) (fun t ht hW => ⟨⟨ws, rfl, hR, by rw [ht]; exact hP, hD⟩, hS.F ht⟩) hS.2.2 hdg hlk
                  · split at hs
                    · rename_i hrt
                      cases hs
                      exact W.zret hx hb (hr.trans hrt.1) hrt.2 (fun t ht hW => ⟨⟨ws, rfl, hR, by rw [ht]; exact hP, hD⟩, hS.F ht⟩) hS.2.2 hdg hlk
                    · cases hs
                · cases hs
              · obtain rfl : len = 1 := by simpa [pv_ln] using hlen
                split at hs
                · split at hs
                  · rename_i hrt
                    cases hs
                    exact W.lret hx hb (hr.trans hrt) (fun t ht hW => ⟨⟨ws, rfl, hR, by rw [ht]; exact hP, hD⟩, hS.F ht⟩) hS.2.2 hdg hlk
                  · cases hs
                · cases hs
              · obtain rfl : len = 1 := by simpa [pv_ln] using hlen
                split at hs
                · split at hs
                  · rename_i hrt
                    cases hs
                    exact W.vret hx hb (hr.trans hrt) (fun t ht hW => ⟨⟨ws, rfl, hR, by rw [ht]; exact hP, hD⟩, hS.F ht⟩) hS.2.2 hdg hlk
                  · cases hs
                · cases hs
              · cases hs
            · split at hev
              · rename_i M' as rest hs
                split at hev
                · rename_i r1 h1 hev1
                  unfold pv_cs at hs
                  split at hs
                  · obtain rfl : len = 3 := by simpa [pv_ln] using hlen
                    split at hs
                    · rename_i y hy
                      split at hs
                      · rename_i M2 hM2
                        split at hs
                        · rename_i b r2 hst
                          split at hs
                          · rename_i ci fs hhb
                            split at hs
                            · rename_i hc
                              obtain ⟨hfind, hok, hsum, htk, hsl⟩ := hc
                              simp only [Option.some.injEq, Prod.mk.injEq] at hs
                              obtain ⟨rfl, rfl, rfl⟩ := hs
                              have hyy := pv_ix_spec hM2
                              subst hyy
                              simp only [pv_okV, pv_okB, Bool.and_eq_true, decide_eq_true_eq] at hok
                              obtain ⟨⟨⟨⟨⟨⟨⟨⟨⟨c1, c2⟩, c3⟩, c4⟩, c5⟩, c6⟩, c7⟩, c8⟩, c9⟩, c10⟩ := hok
                              have hlw := (pv_ml_spec hy).elim (fun z => z.2) (fun z => by obtain ⟨z, z1, -⟩ := z; cases z1)
                              obtain ⟨q0, h0⟩ := hR _ _ hhb
                              have hcls : ∃ q : vw_C, pv_cls[ci]? = some q ∧ q.1 = pv_own M2 := by
                                have z1 := List.find?_some hfind
                                simp only [decide_eq_true_eq, List.getElem?_map] at z1
                                cases hq : pv_cls[ci]? with
                                | none => rw [hq] at z1; cases z1
                                | some q => rw [hq] at z1; exact ⟨q, rfl, Option.some.inj z1⟩
                              obtain ⟨q, hq, hqC⟩ := hcls
                              have hrecv := va_recv hWd.1 hP hq h0
                              rw [hqC] at hrecv
                              refine pv_callM (va_runV (C := (pv_y M2).cls) (b := b) (As := (st.take (pv_np M2)).reverse) (rest := r2) ⟨hx, hb, hml, hown, hts⟩ (pv_met_of ih (ws := ws) hev1 c6 hsl hR) ⟨callB_of (pv_np M2) hts (pv_GoodIn c8) rfl rfl rfl (hbig _ (pv_bigmem c7 rfl)) (hbig _ (pv_bigmem hlw rfl)) ⟨c1, c2, c3⟩ ⟨c4, c5⟩, hbig _ (pv_bigmem c9 rfl), hbig _ (pv_bigmem c10 rfl)⟩ ⟨pv_Pc.blind _ _, hrecv, fun U hU hW => ⟨rfl, by rw [hU]; exact hP, hD, hWd.at hS hU hW⟩⟩ rfl (by rw [List.length_reverse]; exact htk) hl.1 ?_ (lv_room hsum) hdg ⟨Nat.zero_le _, Nat.zero_le _⟩) hS (fun H1 locs1 u hu1 hu2 hu3 hS1 => ih _ _ _ _ _ _ _ hev p e s m args below meth c H1 locs1 ls u hAct hts hl hu1 hu2 hu3 hS1)
                              show st = _
                              rw [List.reverse_reverse, ← hst, List.take_append_drop]
                            · cases hs
                          · cases hs
                        · cases hs
                      · cases hs
                    · cases hs
                  · obtain rfl : len = 3 := by simpa [pv_ln] using hlen
                    split at hs
                    · rename_i y o hy
                      split at hs
                      · rename_i M2 hM2
                        split at hs
                        · rename_i hc
                          obtain ⟨hok, hsum, htk, hsl⟩ := hc
                          simp only [Option.some.injEq, Prod.mk.injEq] at hs
                          obtain ⟨rfl, rfl, rfl⟩ := hs
                          have hyy := pv_ix_spec hM2
                          subst hyy
                          simp only [pv_okS, pv_okB, Bool.and_eq_true, decide_eq_true_eq] at hok
                          obtain ⟨⟨⟨⟨⟨⟨⟨⟨c1, c2⟩, c3⟩, c4⟩, c5⟩, c6⟩, c7⟩, c8⟩, c9⟩ := hok
                          have hst : st = (List.reverse (List.reverse (List.take (pv_np M2) st))) ++ List.drop (pv_np M2) st := by rw [List.reverse_reverse, List.take_append_drop]
                          rcases pv_ml_spec hy with ⟨-, hlw⟩ | ⟨z, -, hlw⟩
                          · exact pv_callM (va_runS (As := (st.take (pv_np M2)).reverse) (rest := st.drop (pv_np M2)) ⟨hx, hb, hml, hown, hts⟩ (pv_met_of ih (ws := ws) hev1 c6 hsl hR) ⟨callB_of (pv_np M2) hts (pv_GoodIn c8) rfl rfl rfl (hbig _ (pv_bigmem c7 rfl)) (hbig _ (pv_bigmem hlw rfl)) ⟨c1, c2, c3⟩ ⟨c4, c5⟩, hbig _ (pv_bigmem c9 rfl)⟩ ⟨pv_Pc.blind _ _, fun U hU hW => ⟨rfl, by rw [hU]; exact hP, hD, hWd.at hS hU hW⟩⟩ rfl (by rw [List.length_reverse]; exact htk) hl.1 hst (lv_room hsum) hdg ⟨Nat.zero_le _, Nat.zero_le _⟩) hS (fun H1 locs1 u hu1 hu2 hu3 hS1 => ih _ _ _ _ _ _ _ hev p e s m args below meth c H1 locs1 ls u hAct hts hl hu1 hu2 hu3 hS1)
                          · exact pv_callM (va_runSN (host := z) (As := (st.take (pv_np M2)).reverse) (rest := st.drop (pv_np M2)) ⟨hx, hb, hml, hown, hts⟩ (pv_met_of ih (ws := ws) hev1 c6 hsl hR) ⟨va_cnB (pv_np M2) hts (pv_GoodIn c8) rfl rfl rfl (hWd.2.2.2.1 _ _ _ _ hlw) (hbig _ (pv_bigmem c7 rfl)) ⟨c1, c2, c3⟩ ⟨c4, c5⟩, hbig _ (pv_bigmem c9 rfl), trivial⟩ ⟨pv_Pc.blind _ _, fun U hU hW => ⟨rfl, by rw [hU]; exact hP, hD, hWd.at hS hU hW⟩⟩ rfl (by rw [List.length_reverse]; exact htk) hl.1 hst (lv_room hsum) hdg ⟨Nat.zero_le _, Nat.zero_le _⟩) hS (fun H1 locs1 u hu1 hu2 hu3 hS1 => ih _ _ _ _ _ _ _ hev p e s m args below meth c H1 locs1 ls u hAct hts hl hu1 hu2 hu3 hS1)
                        · cases hs
                      · cases hs
                    · cases hs
                  · cases hs
                · cases hev
              · cases hev
      · cases hev
end SM
end
section
/-! ROWS OVER THE PURE MACHINE: ints by whole numbers. -/
abbrev pv_I (x : Int) : Int32 := Int32.ofInt x
abbrev pv_J (x : Int) : Int64 := Int64.ofInt x
abbrev pv_r (x : Int) : Prop := -2147483648 ≤ x ∧ x ≤ 2147483647
abbrev pv_q (x : Int) : Prop := -9223372036854775808 ≤ x ∧ x ≤ 9223372036854775807
theorem pv_I_toInt {x : Int} (h : pv_r x) : (pv_I x).toInt = x := Int32.toInt_ofInt_of_le h.1 (by have := h.2; omega)
theorem pv_J_toInt {x : Int} (h : pv_q x) : (pv_J x).toInt = x := Int64.toInt_ofInt_of_le h.1 (by have := h.2; omega)
theorem pv_I_rep (z : Int32) : pv_r z.toInt ∧ z = pv_I z.toInt := ⟨⟨Int32.le_toInt z, by have := Int32.toInt_lt z; omega⟩, (Int32.ofInt_toInt z).symm⟩
theorem pv_J_rep (z : Int64) : pv_q z.toInt ∧ z = pv_J z.toInt := ⟨⟨Int64.le_toInt z, by have := Int64.toInt_lt z; omega⟩, (Int64.ofInt_toInt z).symm⟩
theorem pv_I_add (x y : Int) : pv_I x + pv_I y = pv_I (x + y) := (Int32.ofInt_add ..).symm
theorem pv_I_sub (x y : Int) : pv_I x - pv_I y = pv_I (x - y) := (Int32.ofInt_sub ..).symm
theorem pv_I_mul (x y : Int) : pv_I x * pv_I y = pv_I (x * y) := (Int32.ofInt_mul ..).symm
theorem pv_I_neg (x : Int) : -(pv_I x) = pv_I (-x) := (Int32.ofInt_neg ..).symm
theorem pv_J_add (x y : Int) : pv_J x + pv_J y = pv_J (x + y) := (Int64.ofInt_add ..).symm
theorem pv_J_sub (x y : Int) : pv_J x - pv_J y = pv_J (x - y) := (Int64.ofInt_sub ..).symm
theorem pv_J_mul (x y : Int) : pv_J x * pv_J y = pv_J (x * y) := (Int64.ofInt_mul ..).symm
theorem pv_J_neg (x : Int) : -(pv_J x) = pv_J (-x) := (Int64.ofInt_neg ..).symm
theorem pv_I_lt {x y : Int} (hx : pv_r x) (hy : pv_r y) : (pv_I x < pv_I y) ↔ x < y := by rw [Int32.lt_iff_toInt_lt, pv_I_toInt hx, pv_I_toInt hy]
theorem pv_I_le {x y : Int} (hx : pv_r x) (hy : pv_r y) : (pv_I x ≤ pv_I y) ↔ x ≤ y := by rw [Int32.le_iff_toInt_le, pv_I_toInt hx, pv_I_toInt hy]
theorem pv_I_eq {x y : Int} (hx : pv_r x) (hy : pv_r y) : (pv_I x = pv_I y) ↔ x = y := by rw [← Int32.toInt_inj, pv_I_toInt hx, pv_I_toInt hy]
theorem pv_J_lt {x y : Int} (hx : pv_q x) (hy : pv_q y) : (pv_J x < pv_J y) ↔ x < y := by rw [Int64.lt_iff_toInt_lt, pv_J_toInt hx, pv_J_toInt hy]
theorem pv_J_eq {x y : Int} (hx : pv_q x) (hy : pv_q y) : (pv_J x = pv_J y) ↔ x = y := by rw [← Int64.toInt_inj, pv_J_toInt hx, pv_J_toInt hy]
theorem pv_I_nat {x : Int} (h0 : 0 ≤ x) (h : x ≤ 2147483647) : (pv_I x).toNatClampNeg = x.toNat := by
  show (pv_I x).toInt.toNat = _
  rw [pv_I_toInt ⟨by omega, h⟩]
theorem pv_in_I {x : Int} {n : Nat} (h0 : 0 ≤ x) (h : x < n) (hn : (n : Int) ≤ 2147483647) : pv_in (pv_I x) n = true := by
  simp only [pv_in, Bool.and_eq_true, decide_eq_true_eq]
  refine ⟨fun z => ?_, ?_⟩
  · have := (pv_I_lt (x := x) (y := 0) ⟨by omega, by omega⟩ ⟨by omega, by omega⟩).mp z
    omega
  · rw [pv_I_nat h0 (by omega)]
    omega
/-- comes to an end with Q -/
def pv_T (K : Nat → Nat) (M pc : Nat) (f : pv_F) (st : List Value) (h : pv_H) (Q : Option Value → pv_H → Prop) : Prop := ∃ n r h', pv_ev K n M pc f st h = some (r, h') ∧ Q r h'
abbrev pv_C (K : Nat → Nat) (M : Nat) (as : List Value) (h : pv_H) (Q : Option Value → pv_H → Prop) : Prop := pv_T K M 0 (pv_en as) [] h Q
theorem pv_T.mono {K : Nat → Nat} {M pc : Nat} {f : pv_F} {st : List Value} {h : pv_H} {Q Q' : Option Value → pv_H → Prop} (k : pv_T K M pc f st h Q) (hQ : ∀ r h', Q r h' → Q' r h') : pv_T K M pc f st h Q' := by
  obtain ⟨n, r, h', e, q⟩ := k
  exact ⟨n, r, h', e, hQ _ _ q⟩
section PW
variable {K : Nat → Nat} {M pc pc' len n : Nat} {f f' : pv_F} {st st' r : List Value} {h h' : pv_H} {Q : Option Value → pv_H → Prop} {i : Instr} {l : List (Option Value)}
theorem pw_step (hd : pv_dec M pc = some (i, len)) (hl : pv_ln i len = true) (hs : pv_sp (pv_mL M) pc f i st = some (pc', f', st')) (k : pv_T K M pc' f' st' h Q) : pv_T K M pc f st h Q := by
  obtain ⟨n, r, h', e, q⟩ := k
  refine ⟨n + 1, r, h', ?_, q⟩
  rw [pv_ev, hd]
  simp only [hl, if_true, hs]
  exact e
theorem pw_steph (hd : pv_dec M pc = some (i, len)) (hl : pv_ln i len = true) (h0 : pv_sp (pv_mL M) pc f i st = none) (hs : pv_sh K M pc i st h = some (pc', st', h')) (k : pv_T K M pc' f st' h' Q) : pv_T K M pc f st h Q := by
  obtain ⟨n, r, h2, e, q⟩ := k
  refine ⟨n + 1, r, h2, ?_, q⟩
  rw [pv_ev, hd]
  simp only [hl, if_true, h0, hs]
  exact e
theorem pw_ret {v : Option Value} (hd : pv_dec M pc = some (i, len)) (hl : pv_ln i len = true) (h0 : pv_sp (pv_mL M) pc f i st = none) (h1 : pv_sh K M pc i st h = none) (hs : pv_re M i st = some v) (k : Q v h) : pv_T K M pc f st h Q := by
  refine ⟨1, v, h, ?_, k⟩
  rw [pv_ev, hd]
  simp only [hl, if_true, h0, h1, hs]
theorem pw_call {M' : Nat} {as rest : List Value} {Q' : Option Value → pv_H → Prop} (hd : pv_dec M pc = some (i, len)) (hl : pv_ln i len = true) (h0 : pv_sp (pv_mL M) pc f i st = none) (h1 : pv_sh K M pc i st h = none) (h2 : pv_re M i st = none) (hs : pv_cs M i st h = some (M', as, rest)) (hc : pv_C K M' as h Q') (k : ∀ r h', Q' r h' → pv_T K M (pc + 3) f (r.toList ++ rest) h' Q) : pv_T K M pc f st h Q := by
  obtain ⟨n1, r1, h1', e1, q1⟩ := hc
  obtain ⟨n2, r2, h2', e2, q2⟩ := k r1 h1' q1
  refine ⟨max n1 n2 + 1, r2, h2', ?_, q2⟩
  rw [pv_ev, hd]
  simp only [hl, if_true, h0, h1, h2, hs]
  rw [pv_ev_mono K _ _ _ _ _ _ _ e1 _ (Nat.le_max_left _ _)]
  exact pv_ev_mono K _ _ _ _ _ _ _ e2 _ (Nat.le_max_right _ _)
/-- a store into the list of locals -/
def pv_kl (o : Option Value) : Option Value := match o with
  | some w => if w.category = 2 then none else some w
  | none => none
def pv_ls : List (Option Value) → Nat → Value → List (Option Value)
  | [], _, _ => []
  | _ :: t, 0, v => some v :: t
  | o :: t, 1, v => pv_kl o :: pv_ls t 0 v
  | o :: t, k + 2, v => o :: pv_ls t (k + 1) v
def pv_nx : List (Option Value) → List (Option Value)
  | [] => []
  | _ :: t => none :: t
def pv_ls2 : List (Option Value) → Nat → Value → List (Option Value)
  | [], _, _ => []
  | _ :: t, 0, v => some v :: pv_nx t
  | o :: t, 1, v => pv_kl o :: pv_ls2 t 0 v
  | o :: t, k + 2, v => o :: pv_ls2 t (k + 1) v
theorem pv_fl_cons (o : Option Value) (t : List (Option Value)) (j : Nat) : pv_fl (o :: t) j = match j with
    | 0 => o
    | j + 1 => pv_fl t j := by
  cases j <;> rfl
theorem pv_up1_zero (f : pv_F) (v : Value) : pv_up1 f 0 v = fun j => match j with
    | 0 => some v
    | j + 1 => f (j + 1) := by
  funext j
  unfold pv_up1
  cases j with
  | zero => rfl
  | succ j =>
    rw [if_neg (by omega)]
    cases hf : f (j + 1) with
    | none => simp [hf]
    | some w => simp [hf]
theorem pv_fl_ls : ∀ (l : List (Option Value)) (k : Nat) (v : Value), k < l.length → pv_up1 (pv_fl l) k v = pv_fl (pv_ls l k v) := by
  intro l
  induction l with
  | nil => intro k v h; simp at h
  | cons o t ih =>
    intro k v h
    match k, h with
    | 0, h =>
      rw [pv_up1_zero]
      funext j
      cases j <;> rfl
    | 1, h =>
      funext j
      rw [show pv_ls (o :: t) 1 v = pv_kl o :: pv_ls t 0 v from rfl, pv_fl_cons]
      have h2 := ih 0 v (by simp only [List.length_cons] at h; omega)
      rw [← h2]
      cases j with
      | zero =>
        show pv_up1 (pv_fl (o :: t)) 1 v 0 = pv_kl o
        unfold pv_up1 pv_kl
        rw [if_neg (by omega)]
        rw [show pv_fl (o :: t) 0 = o from rfl]
        cases o with
        | none => rfl
        | some w => simp
      | succ j =>
        show pv_up1 (pv_fl (o :: t)) 1 v (j + 1) = pv_up1 (pv_fl t) 0 v j
        unfold pv_up1
        simp only [pv_fl_cons]
        by_cases hj : j = 0
        · subst hj; simp
        · rw [if_neg (by omega), if_neg hj]
          cases pv_fl t j with
          | none => rfl
          | some w => simp <;> omega
    | k + 2, h =>
      funext j
      rw [show pv_ls (o :: t) (k + 2) v = o :: pv_ls t (k + 1) v from rfl, pv_fl_cons]
      have h2 := ih (k + 1) v (by simp only [List.length_cons] at h; omega)
      rw [← h2]
      cases j with
      | zero =>
        show pv_up1 (pv_fl (o :: t)) (k + 2) v 0 = o
        unfold pv_up1
        rw [if_neg (by omega)]
        rw [show pv_fl (o :: t) 0 = o from rfl]
        cases o with
        | none => rfl
        | some w => simp
      | succ j =>
        show pv_up1 (pv_fl (o :: t)) (k + 2) v (j + 1) = pv_up1 (pv_fl t) (k + 1) v j
        unfold pv_up1
        simp only [pv_fl_cons]
        by_cases hj : j = k + 1
        · subst hj; simp
        · rw [if_neg (by omega), if_neg hj]
          cases pv_fl t j with
          | none => rfl
          | some w =>
            have : (j + 1 + 1 = k + 2) ↔ (j + 1 = k + 1) := by omega
            simp only [this]
theorem pv_fl_nx (t : List (Option Value)) (j : Nat) : pv_fl (pv_nx t) j = if j = 0 then none else pv_fl t j := by
  cases t with
  | nil => cases j <;> rfl
  | cons o t => cases j <;> rfl
theorem pv_fl_ls2 : ∀ (l : List (Option Value)) (k : Nat) (v : Value), k < l.length → pv_up2 (pv_fl l) k v = pv_fl (pv_ls2 l k v) := by
  intro l
  induction l with
  | nil => intro k v h; simp at h
  | cons o t ih =>
    intro k v h
    match k, h with
    | 0, h =>
      funext j
      unfold pv_up2
      cases j with
      | zero => rfl
      | succ j =>
        rw [show pv_ls2 (o :: t) 0 v = some v :: pv_nx t from rfl, pv_fl_cons, if_neg (by omega)]
        show _ = pv_fl (pv_nx t) j
        rw [pv_fl_nx]
        by_cases hj : j = 0
        · subst hj; simp
        · rw [if_neg (by omega), if_neg hj]
          show (match pv_fl t j with | some w => _ | none => _) = _
          cases pv_fl t j with
          | none => rfl
          | some w => simp
    | 1, h =>
      funext j
      rw [show pv_ls2 (o :: t) 1 v = pv_kl o :: pv_ls2 t 0 v from rfl, pv_fl_cons]
      have h2 := ih 0 v (by simp only [List.length_cons] at h; omega)
      rw [← h2]
      cases j with
      | zero =>
        show pv_up2 (pv_fl (o :: t)) 1 v 0 = pv_kl o
        unfold pv_up2 pv_kl
        rw [if_neg (by omega), if_neg (by omega)]
        rw [show pv_fl (o :: t) 0 = o from rfl]
        cases o with
        | none => rfl
        | some w => simp
      | succ j =>
        show pv_up2 (pv_fl (o :: t)) 1 v (j + 1) = pv_up2 (pv_fl t) 0 v j
        unfold pv_up2
        simp only [pv_fl_cons]
        by_cases hj : j = 0
        · subst hj; simp
        · by_cases hj1 : j = 1
          · subst hj1; simp
          · rw [if_neg (by omega), if_neg (by omega), if_neg hj, if_neg (by omega)]
            cases pv_fl t j with
            | none => rfl
            | some w => simp <;> omega
    | k + 2, h =>
      funext j
      rw [show pv_ls2 (o :: t) (k + 2) v = o :: pv_ls2 t (k + 1) v from rfl, pv_fl_cons]
      have h2 := ih (k + 1) v (by simp only [List.length_cons] at h; omega)
      rw [← h2]
      cases j with
      | zero =>
        show pv_up2 (pv_fl (o :: t)) (k + 2) v 0 = o
        unfold pv_up2
        rw [if_neg (by omega), if_neg (by omega)]
        rw [show pv_fl (o :: t) 0 = o from rfl]
        cases o with
        | none => rfl
        | some w => simp
      | succ j =>
        show pv_up2 (pv_fl (o :: t)) (k + 2) v (j + 1) = pv_up2 (pv_fl t) (k + 1) v j
        unfold pv_up2
        simp only [pv_fl_cons]
        by_cases hj : j = k + 1
        · subst hj; simp
        · by_cases hj1 : j = k + 1 + 1
          · subst hj1; simp
          · rw [if_neg (by omega), if_neg (by omega), if_neg hj, if_neg hj1]
            cases pv_fl t j with
            | none => rfl
            | some w =>
              have : (j + 1 + 1 = k + 2) ↔ (j + 1 = k + 1) := by omega
              simp only [this]
/-- the entry's locals, filled up -/
theorem pv_fl_pad (l : List (Option Value)) (n : Nat) : pv_fl l = pv_fl (l ++ List.replicate n none) := by
  funext j
  unfold pv_fl
  by_cases hj : j < l.length
  · rw [List.getElem?_append_left hj]
  · rw [List.getElem?_append_right (by omega), List.getElem?_eq_none (by omega)]
    by_cases hr : j - l.length < n
    · simp [List.getElem?_replicate, hr]
    · simp [List.getElem?_replicate, hr]
theorem pw_entry {as : List Value} (n : Nat) (k : pv_T K M 0 (pv_fl (pv_es as ++ List.replicate n none)) [] h Q) : pv_C K M as h Q := by
  show pv_T K M 0 (pv_fl (pv_es as)) [] h Q
  rw [pv_fl_pad _ n]
  exact k
theorem pw_iconst {x : Int} (hd : pv_dec M pc = some (.iconst x, 1)) (k : pv_T K M (pc + 1) f (.int (pv_I x) :: st) h Q) : pv_T K M pc f st h Q := pw_step hd rfl rfl k
theorem pw_bipush {x : Int} (hd : pv_dec M pc = some (.bipush x, 2)) (hx : (Int8.ofInt x).toInt32 = pv_I x) (k : pv_T K M (pc + 2) f (.int (pv_I x) :: st) h Q) : pv_T K M pc f st h Q := pw_step hd rfl (by rw [← hx]; rfl) k
theorem pw_sipush {x : Int} (hd : pv_dec M pc = some (.sipush x, 3)) (hx : (Int16.ofInt x).toInt32 = pv_I x) (k : pv_T K M (pc + 3) f (.int (pv_I x) :: st) h Q) : pv_T K M pc f st h Q := pw_step hd rfl (by rw [← hx]; rfl) k
theorem pw_lconst {x : Fin 2} {z : Int} (hd : pv_dec M pc = some (.lconst x, 1)) (hx : Int64.ofNat (x : Nat) = pv_J z) (k : pv_T K M (pc + 1) f (.long (pv_J z) :: st) h Q) : pv_T K M pc f st h Q := pw_step hd rfl (by rw [← hx]; rfl) k
theorem pw_iload {j : Nat} {x : Int32} (hd : pv_dec M pc = some (.iload j, 2)) (hf : l[j]? = some (some (.int x))) (k : pv_T K M (pc + 2) (pv_fl l) (.int x :: st) h Q) : pv_T K M pc (pv_fl l) st h Q := pw_step hd rfl (by simp only [pv_sp, pv_fl, hf]) k
theorem pw_iload_n {j : Fin 4} {x : Int32} (hd : pv_dec M pc = some (.iload_n j, 1)) (hf : l[(j : Nat)]? = some (some (.int x))) (k : pv_T K M (pc + 1) (pv_fl l) (.int x :: st) h Q) : pv_T K M pc (pv_fl l) st h Q := pw_step hd rfl (by simp only [pv_sp, pv_fl, hf]) k
theorem pw_lload {j : Nat} {x : Int64} (hd : pv_dec M pc = some (.lload j, 2)) (hf : l[j]? = some (some (.long x))) (k : pv_T K M (pc + 2) (pv_fl l) (.long x :: st) h Q) : pv_T K M pc (pv_fl l) st h Q := pw_step hd rfl (by simp only [pv_sp, pv_fl, hf]) k
theorem pw_lload_n {j : Fin 4} {x : Int64} (hd : pv_dec M pc = some (.lload_n j, 1)) (hf : l[(j : Nat)]? = some (some (.long x))) (k : pv_T K M (pc + 1) (pv_fl l) (.long x :: st) h Q) : pv_T K M pc (pv_fl l) st h Q := pw_step hd rfl (by simp only [pv_sp, pv_fl, hf]) k
theorem pw_aload {j : Nat} {x : Nat} (hd : pv_dec M pc = some (.aload j, 2)) (hf : l[j]? = some (some (.ref x))) (k : pv_T K M (pc + 2) (pv_fl l) (.ref x :: st) h Q) : pv_T K M pc (pv_fl l) st h Q := pw_step hd rfl (by simp only [pv_sp, pv_fl, hf]) k
theorem pw_aload_n {j : Fin 4} {x : Nat} (hd : pv_dec M pc = some (.aload_n j, 1)) (hf : l[(j : Nat)]? = some (some (.ref x))) (k : pv_T K M (pc + 1) (pv_fl l) (.ref x :: st) h Q) : pv_T K M pc (pv_fl l) st h Q := pw_step hd rfl (by simp only [pv_sp, pv_fl, hf]) k
theorem pw_istore {j : Nat} {x : Int32} (hd : pv_dec M pc = some (.istore j, 2)) (hn : pv_mL M = n) (hj : Nat.blt (j) n = true) (hl : Nat.blt j l.length = true) (k : pv_T K M (pc + 2) (pv_fl (pv_ls l j (.int x))) st h Q) : pv_T K M pc (pv_fl l) (.int x :: st) h Q := pw_step hd rfl (by simp only [pv_sp, hn, if_pos (Nat.blt_eq.mp hj)]; rw [pv_fl_ls _ _ _ (Nat.blt_eq.mp hl)]) k
theorem pw_istore_n {j : Fin 4} {x : Int32} (hd : pv_dec M pc = some (.istore_n j, 1)) (hn : pv_mL M = n) (hj : Nat.blt ((j : Nat)) n = true) (hl : Nat.blt (j : Nat) l.length = true) (k : pv_T K M (pc + 1) (pv_fl (pv_ls l j (.int x))) st h Q) : pv_T K M pc (pv_fl l) (.int x :: st) h Q := pw_step hd rfl (by simp only [pv_sp, hn, if_pos (Nat.blt_eq.mp hj)]; rw [pv_fl_ls _ _ _ (Nat.blt_eq.mp hl)]) k
theorem pw_lstore {j : Nat} {x : Int64} (hd : pv_dec M pc = some (.lstore j, 2)) (hn : pv_mL M = n) (hj : Nat.blt (j + 1) n = true) (hl : Nat.blt j l.length = true) (k : pv_T K M (pc + 2) (pv_fl (pv_ls2 l j (.long x))) st h Q) : pv_T K M pc (pv_fl l) (.long x :: st) h Q := pw_step hd rfl (by simp only [pv_sp, hn, if_pos (Nat.blt_eq.mp hj)]; rw [pv_fl_ls2 _ _ _ (Nat.blt_eq.mp hl)]) k
theorem pw_lstore_n {j : Fin 4} {x : Int64} (hd : pv_dec M pc = some (.lstore_n j, 1)) (hn : pv_mL M = n) (hj : Nat.blt ((j : Nat) + 1) n = true) (hl : Nat.blt (j : Nat) l.length = true) (k : pv_T K M (pc + 1) (pv_fl (pv_ls2 l j (.long x))) st h Q) : pv_T K M pc (pv_fl l) (.long x :: st) h Q := pw_step hd rfl (by simp only [pv_sp, hn, if_pos (Nat.blt_eq.mp hj)]; rw [pv_fl_ls2 _ _ _ (Nat.blt_eq.mp hl)]) k
theorem pw_astore {j : Nat} {x : Nat} (hd : pv_dec M pc = some (.astore j, 2)) (hn : pv_mL M = n) (hj : Nat.blt (j) n = true) (hl : Nat.blt j l.length = true) (k : pv_T K M (pc + 2) (pv_fl (pv_ls l j (.ref x))) st h Q) : pv_T K M pc (pv_fl l) (.ref x :: st) h Q := pw_step hd rfl (by simp only [pv_sp, hn, if_pos (Nat.blt_eq.mp hj)]; rw [pv_fl_ls _ _ _ (Nat.blt_eq.mp hl)]) k
theorem pw_astore_n {j : Fin 4} {x : Nat} (hd : pv_dec M pc = some (.astore_n j, 1)) (hn : pv_mL M = n) (hj : Nat.blt ((j : Nat)) n = true) (hl : Nat.blt (j : Nat) l.length = true) (k : pv_T K M (pc + 1) (pv_fl (pv_ls l j (.ref x))) st h Q) : pv_T K M pc (pv_fl l) (.ref x :: st) h Q := pw_step hd rfl (by simp only [pv_sp, hn, if_pos (Nat.blt_eq.mp hj)]; rw [pv_fl_ls _ _ _ (Nat.blt_eq.mp hl)]) k
theorem pw_iinc {j : Nat} {x z : Int} (hd : pv_dec M pc = some (.iinc j z, 3)) (hn : pv_mL M = n) (hj : Nat.blt j n = true) (hl : Nat.blt j l.length = true) (hf : l[j]? = some (some (.int (pv_I x)))) (k : pv_T K M (pc + 3) (pv_fl (pv_ls l j (.int (pv_I (x + z))))) st h Q) : pv_T K M pc (pv_fl l) st h Q := pw_step hd rfl (by simp only [pv_sp, pv_fl, hf, hn, if_pos (Nat.blt_eq.mp hj)]; rw [show pv_I x + Int32.ofInt z = pv_I (x + z) from pv_I_add x z, ← pv_fl_ls _ _ _ (Nat.blt_eq.mp hl)]) k
theorem pw_iadd {x y : Int} (hd : pv_dec M pc = some (.iadd, 1)) (k : pv_T K M (pc + 1) f (.int (pv_I (x + y)) :: st) h Q) : pv_T K M pc f (.int (pv_I y) :: .int (pv_I x) :: st) h Q := pw_step hd rfl (by simp only [pv_sp]; rw [pv_I_add]) k
theorem pw_ladd {x y : Int} (hd : pv_dec M pc = some (.ladd, 1)) (k : pv_T K M (pc + 1) f (.long (pv_J (x + y)) :: st) h Q) : pv_T K M pc f (.long (pv_J y) :: .long (pv_J x) :: st) h Q := pw_step hd rfl (by simp only [pv_sp]; rw [pv_J_add]) k
theorem pw_isub {x y : Int} (hd : pv_dec M pc = some (.isub, 1)) (k : pv_T K M (pc + 1) f (.int (pv_I (x - y)) :: st) h Q) : pv_T K M pc f (.int (pv_I y) :: .int (pv_I x) :: st) h Q := pw_step hd rfl (by simp only [pv_sp]; rw [pv_I_sub]) k
theorem pw_lsub {x y : Int} (hd : pv_dec M pc = some (.lsub, 1)) (k : pv_T K M (pc + 1) f (.long (pv_J (x - y)) :: st) h Q) : pv_T K M pc f (.long (pv_J y) :: .long (pv_J x) :: st) h Q := pw_step hd rfl (by simp only [pv_sp]; rw [pv_J_sub]) k
theorem pw_imul {x y : Int} (hd : pv_dec M pc = some (.imul, 1)) (k : pv_T K M (pc + 1) f (.int (pv_I (x * y)) :: st) h Q) : pv_T K M pc f (.int (pv_I y) :: .int (pv_I x) :: st) h Q := pw_step hd rfl (by simp only [pv_sp]; rw [pv_I_mul]) k
theorem pw_lmul {x y : Int} (hd : pv_dec M pc = some (.lmul, 1)) (k : pv_T K M (pc + 1) f (.long (pv_J (x * y)) :: st) h Q) : pv_T K M pc f (.long (pv_J y) :: .long (pv_J x) :: st) h Q := pw_step hd rfl (by simp only [pv_sp]; rw [pv_J_mul]) k
theorem pw_ineg {x : Int} (hd : pv_dec M pc = some (.ineg, 1)) (k : pv_T K M (pc + 1) f (.int (pv_I (-x)) :: st) h Q) : pv_T K M pc f (.int (pv_I x) :: st) h Q := pw_step hd rfl (by simp only [pv_sp]; rw [pv_I_neg]) k
theorem pw_lneg {x : Int} (hd : pv_dec M pc = some (.lneg, 1)) (k : pv_T K M (pc + 1) f (.long (pv_J (-x)) :: st) h Q) : pv_T K M pc f (.long (pv_J x) :: st) h Q := pw_step hd rfl (by simp only [pv_sp]; rw [pv_J_neg]) k
/-- a number that is forgotten but for its being an int, a long -/
theorem pw_any {x : Int32} (k : ∀ z, pv_r z → x = pv_I z → pv_T K M pc f (.int (pv_I z) :: st) h Q) : pv_T K M pc f (.int x :: st) h Q := by
  have h1 := pv_I_rep x
  have h2 := k x.toInt h1.1 h1.2
  rw [← h1.2] at h2
  exact h2
theorem pw_anyl {x : Int64} (k : ∀ z, pv_q z → x = pv_J z → pv_T K M pc f (.long (pv_J z) :: st) h Q) : pv_T K M pc f (.long x :: st) h Q := by
  have h1 := pv_J_rep x
  have h2 := k x.toInt h1.1 h1.2
  rw [← h1.2] at h2
  exact h2
theorem pw_iand {x y : Int32} (hd : pv_dec M pc = some (.iand, 1)) (k : ∀ z, pv_r z → x &&& y = pv_I z → pv_T K M (pc + 1) f (.int (pv_I z) :: st) h Q) : pv_T K M pc f (.int y :: .int x :: st) h Q := pw_step hd rfl rfl (pw_any k)
theorem pw_ior {x y : Int32} (hd : pv_dec M pc = some (.ior, 1)) (k : ∀ z, pv_r z → x ||| y = pv_I z → pv_T K M (pc + 1) f (.int (pv_I z) :: st) h Q) : pv_T K M pc f (.int y :: .int x :: st) h Q := pw_step hd rfl rfl (pw_any k)
theorem pw_ixor {x y : Int32} (hd : pv_dec M pc = some (.ixor, 1)) (k : ∀ z, pv_r z → x ^^^ y = pv_I z → pv_T K M (pc + 1) f (.int (pv_I z) :: st) h Q) : pv_T K M pc f (.int y :: .int x :: st) h Q := pw_step hd rfl rfl (pw_any k)
theorem pw_ishl {x y : Int32} (hd : pv_dec M pc = some (.ishl, 1)) (k : ∀ z, pv_r z → x <<< (y &&& 31) = pv_I z → pv_T K M (pc + 1) f (.int (pv_I z) :: st) h Q) : pv_T K M pc f (.int y :: .int x :: st) h Q := pw_step hd rfl rfl (pw_any k)
theorem pw_ishr {x y : Int32} (hd : pv_dec M pc = some (.ishr, 1)) (k : ∀ z, pv_r z → x >>> (y &&& 31) = pv_I z → pv_T K M (pc + 1) f (.int (pv_I z) :: st) h Q) : pv_T K M pc f (.int y :: .int x :: st) h Q := pw_step hd rfl rfl (pw_any k)
theorem pw_iushr {x y : Int32} (hd : pv_dec M pc = some (.iushr, 1)) (k : ∀ z, pv_r z → (x.toUInt32 >>> (y.toUInt32 &&& Int32.toUInt32 31)).toInt32 = pv_I z → pv_T K M (pc + 1) f (.int (pv_I z) :: st) h Q) : pv_T K M pc f (.int y :: .int x :: st) h Q := pw_step hd rfl rfl (pw_any k)
theorem pw_land {x y : Int64} (hd : pv_dec M pc = some (.land, 1)) (k : ∀ z, pv_q z → x &&& y = pv_J z → pv_T K M (pc + 1) f (.long (pv_J z) :: st) h Q) : pv_T K M pc f (.long y :: .long x :: st) h Q := pw_step hd rfl rfl (pw_anyl k)
theorem pw_lor {x y : Int64} (hd : pv_dec M pc = some (.lor, 1)) (k : ∀ z, pv_q z → x ||| y = pv_J z → pv_T K M (pc + 1) f (.long (pv_J z) :: st) h Q) : pv_T K M pc f (.long y :: .long x :: st) h Q := pw_step hd rfl rfl (pw_anyl k)
theorem pw_lshl {x : Int64} {y : Int32} (hd : pv_dec M pc = some (.lshl, 1)) (k : ∀ z, pv_q z → x <<< (y.toInt64 &&& 63) = pv_J z → pv_T K M (pc + 1) f (.long (pv_J z) :: st) h Q) : pv_T K M pc f (.int y :: .long x :: st) h Q := pw_step hd rfl rfl (pw_anyl k)
theorem pw_lshr {x : Int64} {y : Int32} (hd : pv_dec M pc = some (.lshr, 1)) (k : ∀ z, pv_q z → x >>> (y.toInt64 &&& 63) = pv_J z → pv_T K M (pc + 1) f (.long (pv_J z) :: st) h Q) : pv_T K M pc f (.int y :: .long x :: st) h Q := pw_step hd rfl rfl (pw_anyl k)
/-- divisions -/
theorem pv_I_div {x y : Int} (hx : pv_r x) (hy : pv_r y) (h : ¬ (x = -2147483648 ∧ y = -1)) : pv_I x / pv_I y = pv_I (x.tdiv y) := by
  have h1 := pv_I_rep (pv_I x / pv_I y)
  rw [h1.2]
  congr 1
  rw [Int32.toInt_div, pv_I_toInt hx, pv_I_toInt hy]
  have hb : -2147483648 ≤ x.tdiv y ∧ x.tdiv y ≤ 2147483647 := by
    have e1 : (x.tdiv y).natAbs = x.natAbs / y.natAbs := Int.natAbs_tdiv x y
    have e2 : x.natAbs / y.natAbs ≤ x.natAbs := Nat.div_le_self _ _
    by_cases hm : x = -2147483648
    · by_cases hy1 : y = 1
      · subst hy1; simp; omega
      · by_cases hy0 : y = 0
        · subst hy0; simp
        · have : 2 ≤ y.natAbs := by
            have : y ≠ -1 := fun z => h ⟨hm, z⟩
            omega
          have e3 : x.natAbs / y.natAbs ≤ x.natAbs / 2 := Nat.div_le_div_left this (by omega)
          omega
    · omega
  rw [Int.bmod_eq_of_le (by omega) (by omega)]
theorem pv_I_divn {x y : Int} (hx : pv_r x) (hy : pv_r y) (h0 : 0 ≤ x) : pv_I x / pv_I y = pv_I (x / y) := by
  rw [pv_I_div hx hy (by omega), Int.tdiv_eq_ediv_of_nonneg h0]
theorem pv_I_ne0 {y : Int} (hy : pv_r y) (hne : y ≠ 0) : ¬ pv_I y = 0 := fun z => hne ((pv_I_eq (y := 0) hy ⟨by omega, by omega⟩).mp z)
theorem pv_J_ne0 {y : Int} (hy : pv_q y) (hne : y ≠ 0) : ¬ pv_J y = 0 := fun z => hne ((pv_J_eq (y := 0) hy ⟨by omega, by omega⟩).mp z)
theorem pw_idiv {x y : Int} (hd : pv_dec M pc = some (.idiv, 1)) (hx : pv_r x) (hy : pv_r y) (h0 : 0 ≤ x) (hne : y ≠ 0) (k : pv_T K M (pc + 1) f (.int (pv_I (x / y)) :: st) h Q) : pv_T K M pc f (.int (pv_I y) :: .int (pv_I x) :: st) h Q := pw_step hd rfl (by simp only [pv_sp]; rw [if_neg (pv_I_ne0 hy hne), pv_I_divn hx hy h0]) k
theorem pw_idivU {x : Int32} {y : Int} (hd : pv_dec M pc = some (.idiv, 1)) (hy : pv_r y) (hne : y ≠ 0) (k : ∀ z, pv_r z → x / pv_I y = pv_I z → pv_T K M (pc + 1) f (.int (pv_I z) :: st) h Q) : pv_T K M pc f (.int (pv_I y) :: .int x :: st) h Q := pw_step hd rfl (by simp only [pv_sp]; rw [if_neg (pv_I_ne0 hy hne)]) (pw_any k)
theorem pw_irem {x y : Int} (hd : pv_dec M pc = some (.irem, 1)) (hx : pv_r x) (hy : pv_r y) (h0 : 0 ≤ x) (hne : y ≠ 0) (k : pv_T K M (pc + 1) f (.int (pv_I (x % y)) :: st) h Q) : pv_T K M pc f (.int (pv_I y) :: .int (pv_I x) :: st) h Q := pw_step hd rfl (by simp only [pv_sp]; rw [if_neg (pv_I_ne0 hy hne), pv_I_divn hx hy h0, pv_I_mul, pv_I_sub, show x - x / y * y = x % y by rw [Int.emod_def, Int.mul_comm]]) k
theorem pw_iremU {x : Int32} {y : Int} (hd : pv_dec M pc = some (.irem, 1)) (hy : pv_r y) (hne : y ≠ 0) (k : ∀ z, pv_r z → x - x / pv_I y * pv_I y = pv_I z → pv_T K M (pc + 1) f (.int (pv_I z) :: st) h Q) : pv_T K M pc f (.int (pv_I y) :: .int x :: st) h Q := pw_step hd rfl (by simp only [pv_sp]; rw [if_neg (pv_I_ne0 hy hne)]) (pw_any k)
theorem pw_ldivU {x : Int64} {y : Int} (hd : pv_dec M pc = some (.ldiv, 1)) (hy : pv_q y) (hne : y ≠ 0) (k : ∀ z, pv_q z → x / pv_J y = pv_J z → pv_T K M (pc + 1) f (.long (pv_J z) :: st) h Q) : pv_T K M pc f (.long (pv_J y) :: .long x :: st) h Q := pw_step hd rfl (by simp only [pv_sp]; rw [if_neg (pv_J_ne0 hy hne)]) (pw_anyl k)
theorem pw_lremU {x : Int64} {y : Int} (hd : pv_dec M pc = some (.lrem, 1)) (hy : pv_q y) (hne : y ≠ 0) (k : ∀ z, pv_q z → x - x / pv_J y * pv_J y = pv_J z → pv_T K M (pc + 1) f (.long (pv_J z) :: st) h Q) : pv_T K M pc f (.long (pv_J y) :: .long x :: st) h Q := pw_step hd rfl (by simp only [pv_sp]; rw [if_neg (pv_J_ne0 hy hne)]) (pw_anyl k)
theorem pw_lcmp {x y : Int} (hd : pv_dec M pc = some (.lcmp, 1)) (hx : pv_q x) (hy : pv_q y) (k : ∀ z, (x < y ∧ z = -1) ∨ (x = y ∧ z = 0) ∨ (y < x ∧ z = 1) → pv_T K M (pc + 1) f (.int (pv_I z) :: st) h Q) : pv_T K M pc f (.long (pv_J y) :: .long (pv_J x) :: st) h Q := by
  refine pw_step hd rfl rfl ?_
  unfold lg_cmp
  by_cases h1 : y < x
  · have e : pv_J x > pv_J y := (pv_J_lt hy hx).mpr h1
    rw [if_pos e]
    exact k 1 (Or.inr (Or.inr ⟨h1, rfl⟩))
  · have e : ¬ pv_J x > pv_J y := fun z => h1 ((pv_J_lt hy hx).mp z)
    rw [if_neg e]
    by_cases h2 : x = y
    · rw [if_pos (by rw [h2])]
      exact k 0 (Or.inr (Or.inl ⟨h2, rfl⟩))
    · rw [if_neg (fun z => h2 ((pv_J_eq hx hy).mp z))]
      exact k (-1) (Or.inl ⟨by omega, rfl⟩)
theorem pw_i2l {x : Int} (hd : pv_dec M pc = some (.i2l, 1)) (hx : pv_r x) (k : pv_T K M (pc + 1) f (.long (pv_J x) :: st) h Q) : pv_T K M pc f (.int (pv_I x) :: st) h Q := pw_step hd rfl (by
  simp only [pv_sp]
  have : (pv_I x).toInt64 = pv_J x := by
    rw [← Int64.toInt_inj, Int32.toInt_toInt64, pv_I_toInt hx, pv_J_toInt ⟨by omega, by omega⟩]
  rw [this]) k
theorem pw_l2i {x : Int} (hd : pv_dec M pc = some (.l2i, 1)) (k : pv_T K M (pc + 1) f (.int (pv_I x) :: st) h Q) : pv_T K M pc f (.long (pv_J x) :: st) h Q := pw_step hd rfl (by
  simp only [pv_sp]
  have : (pv_J x).toInt32 = pv_I x := Int64.toInt32_ofInt
  rw [this]) k
theorem pw_i2b {x : Int32} (hd : pv_dec M pc = some (.i2b, 1)) (k : ∀ z, -128 ≤ z → z ≤ 127 → x.toInt8.toInt32 = pv_I z → pv_T K M (pc + 1) f (.int (pv_I z) :: st) h Q) : pv_T K M pc f (.int x :: st) h Q := pw_step hd rfl rfl (pw_any fun z hz e => k z (by
  have e2 : (x.toInt8.toInt32).toInt = z := by rw [e, pv_I_toInt hz]
  rw [Int8.toInt_toInt32] at e2
  have := Int8.le_toInt x.toInt8
  omega) (by
  have e2 : (x.toInt8.toInt32).toInt = z := by rw [e, pv_I_toInt hz]
  rw [Int8.toInt_toInt32] at e2
  have := Int8.toInt_lt x.toInt8
  omega) e)
theorem pw_i2s {x : Int32} (hd : pv_dec M pc = some (.i2s, 1)) (k : ∀ z, pv_r z → x.toInt16.toInt32 = pv_I z → pv_T K M (pc + 1) f (.int (pv_I z) :: st) h Q) : pv_T K M pc f (.int x :: st) h Q := pw_step hd rfl rfl (pw_any k)
theorem pw_dup {v : Value} (hd : pv_dec M pc = some (.dup, 1)) (hv : v.category = 1) (k : pv_T K M (pc + 1) f (v :: v :: st) h Q) : pv_T K M pc f (v :: st) h Q := pw_step hd rfl (by simp only [pv_sp]; rw [if_pos hv]) k
theorem pw_dup2 {v w : Value} (hd : pv_dec M pc = some (.dup2, 1)) (hv : v.category = 1) (hw : w.category = 1) (k : pv_T K M (pc + 1) f (v :: w :: v :: w :: st) h Q) : pv_T K M pc f (v :: w :: st) h Q := pw_step hd rfl (by simp only [pv_sp]; rw [if_pos ⟨hv, hw⟩]) k
theorem pw_pop {v : Value} (hd : pv_dec M pc = some (.pop, 1)) (hv : v.category = 1) (k : pv_T K M (pc + 1) f st h Q) : pv_T K M pc f (v :: st) h Q := pw_step hd rfl (by simp only [pv_sp]; rw [if_pos hv]) k
theorem pw_pop2 {v : Value} (hd : pv_dec M pc = some (.pop2, 1)) (hv : v.category = 2) (k : pv_T K M (pc + 1) f st h Q) : pv_T K M pc f (v :: st) h Q := pw_step hd rfl (by simp only [pv_sp]; rw [if_pos hv]) k
theorem pw_goto {z : Int} {t : Nat} (hd : pv_dec M pc = some (.goto z, 3)) (ht : pv_tg pc z = some t) (k : pv_T K M t f st h Q) : pv_T K M pc f st h Q := pw_step hd rfl (by simp only [pv_sp, ht]) k
theorem pw_icmp_eq {x y z : Int} {t : Nat} (hd : pv_dec M pc = some (.if_icmp .eq z, 3)) (ht : pv_tg pc z = some t) (hx : pv_r x) (hy : pv_r y) (kt : x = y → pv_T K M t f st h Q) (kf : x ≠ y → pv_T K M (pc + 3) f st h Q) : pv_T K M pc f (.int (pv_I y) :: .int (pv_I x) :: st) h Q := by
  by_cases hc : x = y
  · exact pw_step hd rfl (by simp only [pv_sp, ht]; rw [if_pos (by simp only [pv_cb, decide_eq_true_eq]; exact (pv_I_eq hx hy).mpr hc)]) (kt hc)
  · exact pw_step hd rfl (by simp only [pv_sp, ht]; rw [if_neg (by simp only [pv_cb, decide_eq_true_eq]; exact fun q => hc ((pv_I_eq hx hy).mp q))]) (kf (by omega))
theorem pw_if_eq {x z : Int} {t : Nat} (hd : pv_dec M pc = some (.ifCond .eq z, 3)) (ht : pv_tg pc z = some t) (hx : pv_r x) (kt : x = 0 → pv_T K M t f st h Q) (kf : x ≠ 0 → pv_T K M (pc + 3) f st h Q) : pv_T K M pc f (.int (pv_I x) :: st) h Q := by
  have hy : pv_r 0 := ⟨by omega, by omega⟩
  by_cases hc : x = 0
  · exact pw_step hd rfl (by simp only [pv_sp, ht]; rw [if_pos (by simp only [pv_cb, decide_eq_true_eq]; exact (pv_I_eq hx hy).mpr hc)]) (kt hc)
  · exact pw_step hd rfl (by simp only [pv_sp, ht]; rw [if_neg (by simp only [pv_cb, decide_eq_true_eq]; exact fun q => hc ((pv_I_eq hx hy).mp q))]) (kf (by omega))
theorem pw_icmp_ne {x y z : Int} {t : Nat} (hd : pv_dec M pc = some (.if_icmp .ne z, 3)) (ht : pv_tg pc z = some t) (hx : pv_r x) (hy : pv_r y) (kt : x ≠ y → pv_T K M t f st h Q) (kf : x = y → pv_T K M (pc + 3) f st h Q) : pv_T K M pc f (.int (pv_I y) :: .int (pv_I x) :: st) h Q := by
  by_cases hc : x ≠ y
  · exact pw_step hd rfl (by simp only [pv_sp, ht]; rw [if_pos (by simp only [pv_cb, decide_eq_true_eq]; exact (not_congr (pv_I_eq hx hy)).mpr hc)]) (kt hc)
  · exact pw_step hd rfl (by simp only [pv_sp, ht]; rw [if_neg (by simp only [pv_cb, decide_eq_true_eq]; exact fun q => hc ((not_congr (pv_I_eq hx hy)).mp q))]) (kf (by omega))
theorem pw_if_ne {x z : Int} {t : Nat} (hd : pv_dec M pc = some (.ifCond .ne z, 3)) (ht : pv_tg pc z = some t) (hx : pv_r x) (kt : x ≠ 0 → pv_T K M t f st h Q) (kf : x = 0 → pv_T K M (pc + 3) f st h Q) : pv_T K M pc f (.int (pv_I x) :: st) h Q := by
  have hy : pv_r 0 := ⟨by omega, by omega⟩
  by_cases hc : x ≠ 0
  · exact pw_step hd rfl (by simp only [pv_sp, ht]; rw [if_pos (by simp only [pv_cb, decide_eq_true_eq]; exact (not_congr (pv_I_eq hx hy)).mpr hc)]) (kt hc)
  · exact pw_step hd rfl (by simp only [pv_sp, ht]; rw [if_neg (by simp only [pv_cb, decide_eq_true_eq]; exact fun q => hc ((not_congr (pv_I_eq hx hy)).mp q))]) (kf (by omega))
theorem pw_icmp_lt {x y z : Int} {t : Nat} (hd : pv_dec M pc = some (.if_icmp .lt z, 3)) (ht : pv_tg pc z = some t) (hx : pv_r x) (hy : pv_r y) (kt : x < y → pv_T K M t f st h Q) (kf : y ≤ x → pv_T K M (pc + 3) f st h Q) : pv_T K M pc f (.int (pv_I y) :: .int (pv_I x) :: st) h Q := by
  by_cases hc : x < y
  · exact pw_step hd rfl (by simp only [pv_sp, ht]; rw [if_pos (by simp only [pv_cb, decide_eq_true_eq]; exact (pv_I_lt hx hy).mpr hc)]) (kt hc)
  · exact pw_step hd rfl (by simp only [pv_sp, ht]; rw [if_neg (by simp only [pv_cb, decide_eq_true_eq]; exact fun q => hc ((pv_I_lt hx hy).mp q))]) (kf (by omega))
theorem pw_if_lt {x z : Int} {t : Nat} (hd : pv_dec M pc = some (.ifCond .lt z, 3)) (ht : pv_tg pc z = some t) (hx : pv_r x) (kt : x < 0 → pv_T K M t f st h Q) (kf : 0 ≤ x → pv_T K M (pc + 3) f st h Q) : pv_T K M pc f (.int (pv_I x) :: st) h Q := by
  have hy : pv_r 0 := ⟨by omega, by omega⟩
  by_cases hc : x < 0
  · exact pw_step hd rfl (by simp only [pv_sp, ht]; rw [if_pos (by simp only [pv_cb, decide_eq_true_eq]; exact (pv_I_lt hx hy).mpr hc)]) (kt hc)
  · exact pw_step hd rfl (by simp only [pv_sp, ht]; rw [if_neg (by simp only [pv_cb, decide_eq_true_eq]; exact fun q => hc ((pv_I_lt hx hy).mp q))]) (kf (by omega))
theorem pw_icmp_ge {x y z : Int} {t : Nat} (hd : pv_dec M pc = some (.if_icmp .ge z, 3)) (ht : pv_tg pc z = some t) (hx : pv_r x) (hy : pv_r y) (kt : y ≤ x → pv_T K M t f st h Q) (kf : x < y → pv_T K M (pc + 3) f st h Q) : pv_T K M pc f (.int (pv_I y) :: .int (pv_I x) :: st) h Q := by
  by_cases hc : y ≤ x
  · exact pw_step hd rfl (by simp only [pv_sp, ht]; rw [if_pos (by simp only [pv_cb, decide_eq_true_eq]; exact (pv_I_le hy hx).mpr hc)]) (kt hc)
  · exact pw_step hd rfl (by simp only [pv_sp, ht]; rw [if_neg (by simp only [pv_cb, decide_eq_true_eq]; exact fun q => hc ((pv_I_le hy hx).mp q))]) (kf (by omega))
theorem pw_if_ge {x z : Int} {t : Nat} (hd : pv_dec M pc = some (.ifCond .ge z, 3)) (ht : pv_tg pc z = some t) (hx : pv_r x) (kt : 0 ≤ x → pv_T K M t f st h Q) (kf : x < 0 → pv_T K M (pc + 3) f st h Q) : pv_T K M pc f (.int (pv_I x) :: st) h Q := by
  have hy : pv_r 0 := ⟨by omega, by omega⟩
  by_cases hc : 0 ≤ x
  · exact pw_step hd rfl (by simp only [pv_sp, ht]; rw [if_pos (by simp only [pv_cb, decide_eq_true_eq]; exact (pv_I_le hy hx).mpr hc)]) (kt hc)
  · exact pw_step hd rfl (by simp only [pv_sp, ht]; rw [if_neg (by simp only [pv_cb, decide_eq_true_eq]; exact fun q => hc ((pv_I_le hy hx).mp q))]) (kf (by omega))
theorem pw_icmp_gt {x y z : Int} {t : Nat} (hd : pv_dec M pc = some (.if_icmp .gt z, 3)) (ht : pv_tg pc z = some t) (hx : pv_r x) (hy : pv_r y) (kt : y < x → pv_T K M t f st h Q) (kf : x ≤ y → pv_T K M (pc + 3) f st h Q) : pv_T K M pc f (.int (pv_I y) :: .int (pv_I x) :: st) h Q := by
  by_cases hc : y < x
  · exact pw_step hd rfl (by simp only [pv_sp, ht]; rw [if_pos (by simp only [pv_cb, decide_eq_true_eq]; exact (pv_I_lt hy hx).mpr hc)]) (kt hc)
  · exact pw_step hd rfl (by simp only [pv_sp, ht]; rw [if_neg (by simp only [pv_cb, decide_eq_true_eq]; exact fun q => hc ((pv_I_lt hy hx).mp q))]) (kf (by omega))
theorem pw_if_gt {x z : Int} {t : Nat} (hd : pv_dec M pc = some (.ifCond .gt z, 3)) (ht : pv_tg pc z = some t) (hx : pv_r x) (kt : 0 < x → pv_T K M t f st h Q) (kf : x ≤ 0 → pv_T K M (pc + 3) f st h Q) : pv_T K M pc f (.int (pv_I x) :: st) h Q := by
  have hy : pv_r 0 := ⟨by omega, by omega⟩
  by_cases hc : 0 < x
  · exact pw_step hd rfl (by simp only [pv_sp, ht]; rw [if_pos (by simp only [pv_cb, decide_eq_true_eq]; exact (pv_I_lt hy hx).mpr hc)]) (kt hc)
  · exact pw_step hd rfl (by simp only [pv_sp, ht]; rw [if_neg (by simp only [pv_cb, decide_eq_true_eq]; exact fun q => hc ((pv_I_lt hy hx).mp q))]) (kf (by omega))
theorem pw_icmp_le {x y z : Int} {t : Nat} (hd : pv_dec M pc = some (.if_icmp .le z, 3)) (ht : pv_tg pc z = some t) (hx : pv_r x) (hy : pv_r y) (kt : x ≤ y → pv_T K M t f st h Q) (kf : y < x → pv_T K M (pc + 3) f st h Q) : pv_T K M pc f (.int (pv_I y) :: .int (pv_I x) :: st) h Q := by
  by_cases hc : x ≤ y
  · exact pw_step hd rfl (by simp only [pv_sp, ht]; rw [if_pos (by simp only [pv_cb, decide_eq_true_eq]; exact (pv_I_le hx hy).mpr hc)]) (kt hc)
  · exact pw_step hd rfl (by simp only [pv_sp, ht]; rw [if_neg (by simp only [pv_cb, decide_eq_true_eq]; exact fun q => hc ((pv_I_le hx hy).mp q))]) (kf (by omega))
theorem pw_if_le {x z : Int} {t : Nat} (hd : pv_dec M pc = some (.ifCond .le z, 3)) (ht : pv_tg pc z = some t) (hx : pv_r x) (kt : x ≤ 0 → pv_T K M t f st h Q) (kf : 0 < x → pv_T K M (pc + 3) f st h Q) : pv_T K M pc f (.int (pv_I x) :: st) h Q := by
  have hy : pv_r 0 := ⟨by omega, by omega⟩
  by_cases hc : x ≤ 0
  · exact pw_step hd rfl (by simp only [pv_sp, ht]; rw [if_pos (by simp only [pv_cb, decide_eq_true_eq]; exact (pv_I_le hx hy).mpr hc)]) (kt hc)
  · exact pw_step hd rfl (by simp only [pv_sp, ht]; rw [if_neg (by simp only [pv_cb, decide_eq_true_eq]; exact fun q => hc ((pv_I_le hx hy).mp q))]) (kf (by omega))
theorem pw_tabOut {x d lo hi : Int} {os : Array Int} {len t : Nat} (hd : pv_dec M pc = some (.tableswitch d lo hi os, len)) (hx : pv_r x) (hc : x < lo ∨ hi < x) (ht : pv_tg pc d = some t) (k : pv_T K M t f st h Q) : pv_T K M pc f (.int (pv_I x) :: st) h Q := pw_step hd rfl (by simp only [pv_sp]; rw [if_pos (by rw [pv_I_toInt hx]; exact hc), ht]) k
theorem pw_tabIn {x d lo hi off : Int} {os : Array Int} {len t : Nat} (hd : pv_dec M pc = some (.tableswitch d lo hi os, len)) (hx : pv_r x) (hc : ¬ (x < lo ∨ hi < x)) (ho : os[(x - lo).toNat]? = some off) (ht : pv_tg pc off = some t) (k : pv_T K M t f st h Q) : pv_T K M pc f (.int (pv_I x) :: st) h Q := pw_step hd rfl (by simp only [pv_sp]; rw [if_neg (by rw [pv_I_toInt hx]; exact hc), pv_I_toInt hx, ho]; simp only [ht]) k
theorem pw_ireturn {v : Int32} (hd : pv_dec M pc = some (.ireturn, 1)) (hr : pv_rt M = some .int) (k : Q (some (.int v)) h) : pv_T K M pc f [.int v] h Q := pw_ret hd rfl rfl rfl (by simp only [pv_re]; rw [if_pos hr]) k
theorem pw_zreturn {x : Int} (hd : pv_dec M pc = some (.ireturn, 1)) (hr : pv_rt M = some .boolean) (hx : x = 0 ∨ x = 1) (k : Q (some (.int (pv_I x))) h) : pv_T K M pc f [.int (pv_I x)] h Q := pw_ret hd rfl rfl rfl (by
  simp only [pv_re]
  rw [if_neg (by rw [hr]; decide), if_pos ⟨hr, by rcases hx with rfl | rfl <;> rfl⟩]) k
theorem pw_lreturn {v : Int64} (hd : pv_dec M pc = some (.lreturn, 1)) (hr : pv_rt M = some .long) (k : Q (some (.long v)) h) : pv_T K M pc f [.long v] h Q := pw_ret hd rfl rfl rfl (by simp only [pv_re]; rw [if_pos hr]) k
theorem pw_return (hd : pv_dec M pc = some (.return_, 1)) (hr : pv_rt M = none) (k : Q none h) : pv_T K M pc f [] h Q := pw_ret hd rfl rfl rfl (by simp only [pv_re]; rw [if_pos hr]) k
theorem pw_ldc {idx : Nat} {v : Int32} (hd : pv_dec M pc = some (.ldc idx, 2)) (hk : pv_kc M idx = some v) (k : pv_T K M (pc + 2) f (.int v :: st) h Q) : pv_T K M pc f st h Q := pw_steph hd rfl rfl (by unfold pv_sh; dsimp only; rw [hk]) k
theorem pw_ldcS {idx q : Nat} (hd : pv_dec M pc = some (.ldc idx, 2)) (h0 : pv_kc M idx = none) (hk : pv_ks M idx = some q) (k : pv_T K M (pc + 2) f (.ref (K q) :: st) h Q) : pv_T K M pc f st h Q := pw_steph hd rfl rfl (by unfold pv_sh; dsimp only; rw [h0]; dsimp only; rw [hk]) k
theorem pw_ldcw {idx : Nat} {v : Int32} (hd : pv_dec M pc = some (.ldc_w idx, 3)) (hk : pv_kc M idx = some v) (k : pv_T K M (pc + 3) f (.int v :: st) h Q) : pv_T K M pc f st h Q := pw_steph hd rfl rfl (by unfold pv_sh; dsimp only; rw [hk]) k
theorem pw_ldc2 {idx : Nat} {v : Int64} (hd : pv_dec M pc = some (.ldc2_w idx, 3)) (hk : pv_kd M idx = some v) (k : pv_T K M (pc + 3) f (.long v :: st) h Q) : pv_T K M pc f st h Q := pw_steph hd rfl rfl (by unfold pv_sh; dsimp only; rw [hk]) k
end PW
end
section
/-! TYPES OF CELLS: an object: its class, its fields (1, lo, hi) an int, (2, ..) a long, (4, t, ..) a cell of type t; an array: its kind, length, (1 ints, 2 longs, 4 cells), the bounds of its ints by a period. -/
def pv_tyO : Nat → Option (Nat × List (Nat × Int × Int))
  | 0 => some (0, [(4, 1, 0), (4, 2, 0), (4, 2, 0), (4, 10, 0), (4, 11, 0), (4, 12, 0), (4, 4, 0), (4, 5, 0), (4, 6, 0)])
  | 1 => some (1, [(1, 0, 1600), (1, 0, 3), (1, -1, 1600), (4, 2, 0), (4, 30, 0), (1, 0, 1600), (1, 0, 1600), (1, 0, 4), (1, -2147483648, 2147483647), (1, 0, 1600), (1, 0, 1)])
  | 2 => some (2, [(1, 0, 10), (1, 0, 18), (1, -2147483648, 2147483647), (1, 0, 360), (1, 0, 360), (4, 20, 0), (4, 21, 0), (4, 22, 0), (4, 23, 0), (4, 24, 0), (4, 25, 0), (4, 26, 0), (4, 27, 0), (4, 28, 0), (1, 0, 99), (1, 0, 99)])
  | 3 => some (3, [(1, 0, 1), (1, 0, 3), (1, 0, 60), (4, 31, 0)])
  | 4 => some (4, [(4, 32, 0), (4, 33, 0)])
  | 5 => some (5, [(4, 34, 0), (4, 35, 0), (4, 36, 0), (1, 0, 10), (1, -2147483648, 2147483647), (1, -2147483648, 2147483647), (1, -2147483648, 2147483647), (1, -2147483648, 2147483647)])
  | 6 => some (6, [(4, 37, 0), (4, 38, 0), (4, 39, 0), (1, 0, 10)])
  | 7 => some (7, [(1, -2147483648, 2147483647), (4, 40, 0), (4, 41, 0), (4, 42, 0), (4, 43, 0), (1, 0, 1600), (4, 44, 0), (1, 0, 1600), (1, 0, 1600), (1, 0, 1600), (1, 0, 4), (1, 0, 99999), (1, 0, 3), (1, -1, 1600), (4, 45, 0), (4, 46, 0), (4, 47, 0), (4, 48, 0), (2, 0, 0), (4, 49, 0), (4, 50, 0), (1, 0, 10), (4, 51, 0), (4, 52, 0), (4, 53, 0), (4, 54, 0), (4, 55, 0), (4, 56, 0)])
  | _ => none
def pv_tyA : Nat → Option (Nat × Nat × Nat × List (Int × Int))
  | 10 => some (4, 3, 4, [(2, 0)])
  | 11 => some (3, 3, 1, [(0, 1)])
  | 12 => some (5, 4, 4, [(3, 0)])
  | 20 => some (0, 54, 1, [(0, 9)])
  | 21 => some (0, 18, 1, [(0, 540)])
  | 22 => some (0, 10, 1, [(-1, 3600)])
  | 23 => some (0, 10, 1, [(-1, 99)])
  | 24 => some (0, 10, 1, [(-1, 99)])
  | 25 => some (0, 10, 1, [(-1, 9999)])
  | 26 => some (0, 100, 1, [(0, 360)])
  | 27 => some (0, 100, 1, [(-2147483648, 2147483647)])
  | 28 => some (0, 1287, 1, [(0, 9), (0, 9), (-2147483648, 2147483647), (0, 17), (0, 9), (0, 9), (0, 9), (-2147483648, 2147483647), (0, 17), (0, 9), (0, 9), (0, 9), (-2147483648, 2147483647)])
  | 30 => some (2, 1600, 1, [(-128, 127)])
  | 31 => some (1, 60, 2, [(0, 0)])
  | 32 => some (0, 18, 1, [(-2147483648, 2147483647)])
  | 33 => some (0, 18, 1, [(0, 17)])
  | 34 => some (0, 10, 1, [(0, 9)])
  | 35 => some (0, 18, 1, [(-2147483648, 2147483647)])
  | 36 => some (0, 18, 1, [(-2147483648, 2147483647)])
  | 37 => some (1, 10, 2, [(0, 0)])
  | 38 => some (1, 110, 2, [(0, 0)])
  | 39 => some (0, 10, 1, [(0, 9)])
  | 40 => some (0, 1507, 1, [(-2147483648, 2147483647)])
  | 41 => some (0, 4521, 1, [(-2147483648, 2147483647)])
  | 42 => some (3, 3, 1, [(0, 1)])
  | 43 => some (2, 1600, 1, [(-128, 127)])
  | 44 => some (0, 5, 1, [(-2147483648, 2147483647)])
  | 45 => some (0, 1507, 1, [(-2147483648, 2147483647)])
  | 46 => some (0, 18, 1, [(-2147483648, 2147483647)])
  | 47 => some (0, 54, 1, [(-2147483648, 2147483647)])
  | 48 => some (0, 54, 1, [(-2147483648, 2147483647)])
  | 49 => some (1, 100, 2, [(0, 0)])
  | 50 => some (0, 10, 1, [(0, 9)])
  | 51 => some (1, 10, 2, [(0, 0)])
  | 52 => some (0, 1507, 1, [(-2147483648, 2147483647)])
  | 53 => some (0, 4, 1, [(-1, 60)])
  | 54 => some (0, 4, 1, [(0, 3)])
  | 55 => some (1, 240, 2, [(0, 0)])
  | 56 => some (1, 60, 2, [(0, 0)])
  | _ => none
def pv_okF (τ : Nat → Option Nat) (ρ : Nat → Nat → Nat) (a k : Nat) (ft : Nat × Int × Int) (v : Value) : Prop := match ft with
  | (1, lo, hi) => ∃ x : Int32, v = .int x ∧ lo ≤ x.toInt ∧ x.toInt ≤ hi
  | (2, _, _) => ∃ x : Int64, v = .long x
  | (4, t, _) => v = .ref (ρ a k) ∧ τ (ρ a k) = some t.toNat
  | _ => False
def pv_okO (τ : Nat → Option Nat) (ρ : Nat → Nat → Nat) (h : pv_H) (a ci : Nat) (fts : List (Nat × Int × Int)) : Prop := ∃ fs : List Value, h a = some (.inr (ci, fs)) ∧ fs.length = fts.length ∧ ∀ (k : Nat) (ft : Nat × Int × Int) (v : Value), fts[k]? = some ft → fs[k]? = some v → pv_okF τ ρ a k ft v
def pv_okA (τ : Nat → Option Nat) (ρ : Nat → Nat → Nat) (h : pv_H) (a kd n cd : Nat) (pat : List (Int × Int)) : Prop := match cd with
  | 1 => ∃ f : Nat → Int32, h a = some (.inl (kd, n, .inl f)) ∧ ∀ i : Nat, i < n → ∀ q, pat[i % pat.length]? = some q → q.1 ≤ (f i).toInt ∧ (f i).toInt ≤ q.2
  | 2 => ∃ f : Nat → Int64, h a = some (.inl (kd, n, .inr (.inl f)))
  | _ => ∃ f : Nat → Option Nat, h a = some (.inl (kd, n, .inr (.inr (.inr (.inr f))))) ∧ ∀ i : Nat, i < n → f i = some (ρ a i) ∧ ∀ q, pat[0]? = some q → τ (ρ a i) = some q.1.toNat
/-- the cells are of their types -/
def pv_Ty (τ : Nat → Option Nat) (ρ : Nat → Nat → Nat) (h : pv_H) : Prop := ∀ a t, τ a = some t → (∀ q, pv_tyO t = some q → pv_okO τ ρ h a q.1 q.2) ∧ ∀ q, pv_tyA t = some q → pv_okA τ ρ h a q.1 q.2.1 q.2.2.1 q.2.2.2
def pv_fI (h : pv_H) (a k : Nat) : Int := match h a with
  | some (.inr (_, fs)) => (match fs[k]? with
    | some (.int x) => x.toInt
    | _ => 0)
  | _ => 0
def pv_fJ (h : pv_H) (a k : Nat) : Int := match h a with
  | some (.inr (_, fs)) => (match fs[k]? with
    | some (.long x) => x.toInt
    | _ => 0)
  | _ => 0
def pv_aI (h : pv_H) (a i : Nat) : Int := match h a with
  | some (.inl (_, _, .inl f)) => (f i).toInt
  | _ => 0
def pv_aJ (h : pv_H) (a i : Nat) : Int := match h a with
  | some (.inl (_, _, .inr (.inl f))) => (f i).toInt
  | _ => 0
/-- what isn't named in E stays: t * 64 + k the field k of objects of type t, t * 64 + 63 arrays of type t -/
def pv_Fr (τ : Nat → Option Nat) (E : List Nat) (h h' : pv_H) : Prop := ∀ a t, τ a = some t → (∀ k, (t * 64 + k) ∉ E → pv_fI h' a k = pv_fI h a k ∧ pv_fJ h' a k = pv_fJ h a k) ∧ ((t * 64 + 63) ∉ E → ∀ i, pv_aI h' a i = pv_aI h a i ∧ pv_aJ h' a i = pv_aJ h a i)
theorem pv_Fr.rf {τ : Nat → Option Nat} {E : List Nat} {h : pv_H} : pv_Fr τ E h h := fun _ _ _ => ⟨fun _ _ => ⟨rfl, rfl⟩, fun _ _ => ⟨rfl, rfl⟩⟩
theorem pv_Fr.tr {τ : Nat → Option Nat} {E : List Nat} {h h1 h2 : pv_H} (a : pv_Fr τ E h h1) (b : pv_Fr τ E h1 h2) : pv_Fr τ E h h2 := fun q t ht => ⟨fun k hk => ⟨((b q t ht).1 k hk).1.trans ((a q t ht).1 k hk).1, ((b q t ht).1 k hk).2.trans ((a q t ht).1 k hk).2⟩, fun hk i => ⟨((b q t ht).2 hk i).1.trans ((a q t ht).2 hk i).1, ((b q t ht).2 hk i).2.trans ((a q t ht).2 hk i).2⟩⟩
theorem pv_Fr.up {τ : Nat → Option Nat} {E E' : List Nat} {h h1 : pv_H} (a : pv_Fr τ E h h1) (hE : E.all (fun q => E'.contains q) = true) : pv_Fr τ E' h h1 := fun q t ht => ⟨fun k hk => (a q t ht).1 k (fun z => hk (by
  have := List.all_eq_true.mp hE _ z
  simpa using this)), fun hk => (a q t ht).2 (fun z => hk (by
  have := List.all_eq_true.mp hE _ z
  simpa using this))⟩
/-- a field that may be written -/
def pv_ft (ci k : Nat) : Option FieldType := match pv_cls[ci]? with
  | some q => if (q.2.1 k).2.2.2 = false then parseFieldDescriptor (q.2.1 k).2.2.1 else none
  | none => none
def pv_kV (M idx M' ci np mL' : Nat) : Bool := match pv_ml M idx with
  | some (y, none) => decide (y ≠ pv_sln) && decide (y ≠ pv_scn) && decide (pv_ix y = some M') && decide (pv_np M' = np) && decide (pv_find (pv_own M') = some ci) && pv_okV M M' && decide (pv_mL M' = mL')
  | _ => false
def pv_kS (M idx M' np mL' : Nat) : Bool := match pv_ml M idx with
  | some (y, _) => decide (y ≠ pv_cpn) && decide (y ≠ Lib.Math.max.name) && decide (y ≠ Lib.Math.min.name) && decide (y ≠ Lib.MathLoose.abs_long.x) && decide (pv_ix y = some M') && decide (pv_np M' = np) && pv_okS M M' && decide (pv_mL M' = mL')
  | none => false
section PY
variable {K : Nat → Nat} {M pc : Nat} {f : pv_F} {st : List Value} {h : pv_H} {Q : Option Value → pv_H → Prop} {τ : Nat → Option Nat} {ρ : Nat → Nat → Nat}
theorem pv_set_fI {h : pv_H} {a : Nat} {e : pv_E} {b k : Nat} (hb : b ≠ a) : pv_fI (pv_set h a e) b k = pv_fI h b k ∧ pv_fJ (pv_set h a e) b k = pv_fJ h b k ∧ pv_aI (pv_set h a e) b k = pv_aI h b k ∧ pv_aJ (pv_set h a e) b k = pv_aJ h b k := by
  simp only [pv_fI, pv_fJ, pv_aI, pv_aJ, pv_set, if_neg hb, and_self]
theorem pv_set_self {h : pv_H} {a : Nat} {e : pv_E} : pv_set h a e a = some e := by simp [pv_set]
/-- an int field is read -/
theorem pw_getI {a k ci t idx : Nat} {lo hi : Int} {fts : List (Nat × Int × Int)} (hd : pv_dec M pc = some (.getfield idx, 3)) (hg : pv_gf M idx = some (ci, k)) (hT : pv_Ty τ ρ h) (ha : τ a = some t) (ht : pv_tyO t = some (ci, fts)) (hk : fts[k]? = some (1, lo, hi)) (kk : lo ≤ pv_fI h a k → pv_fI h a k ≤ hi → pv_T K M (pc + 3) f (.int (pv_I (pv_fI h a k)) :: st) h Q) : pv_T K M pc f (.ref a :: st) h Q := by
  obtain ⟨fs, e, hl, hf⟩ := (hT a t ha).1 _ ht
  have hkl : k < fs.length := by rw [hl]; exact (List.getElem?_eq_some_iff.mp hk).1
  obtain ⟨x, hx, h1, h2⟩ := hf k _ _ hk (List.getElem?_eq_getElem hkl)
  have e2 : fs[k]? = some (.int x) := by rw [List.getElem?_eq_getElem hkl, hx]
  have e3 : pv_fI h a k = x.toInt := by simp only [pv_fI, e, e2]
  have e4 : pv_I (pv_fI h a k) = x := by rw [e3]; exact Int32.ofInt_toInt x
  refine pw_steph hd rfl rfl ?_ (kk (by rw [e3]; exact h1) (by rw [e3]; exact h2))
  unfold pv_sh
  simp only [hg, e, if_true, e2, e4]
theorem pw_getJ {a k ci t idx : Nat} {fts : List (Nat × Int × Int)} (hd : pv_dec M pc = some (.getfield idx, 3)) (hg : pv_gf M idx = some (ci, k)) (hT : pv_Ty τ ρ h) (ha : τ a = some t) (ht : pv_tyO t = some (ci, fts)) (hk : fts[k]? = some (2, 0, 0)) (kk : pv_q (pv_fJ h a k) → pv_T K M (pc + 3) f (.long (pv_J (pv_fJ h a k)) :: st) h Q) : pv_T K M pc f (.ref a :: st) h Q := by
  obtain ⟨fs, e, hl, hf⟩ := (hT a t ha).1 _ ht
  have hkl : k < fs.length := by rw [hl]; exact (List.getElem?_eq_some_iff.mp hk).1
  obtain ⟨x, hx⟩ := hf k _ _ hk (List.getElem?_eq_getElem hkl)
  have e2 : fs[k]? = some (.long x) := by rw [List.getElem?_eq_getElem hkl, hx]
  have e3 : pv_fJ h a k = x.toInt := by simp only [pv_fJ, e, e2]
  have e4 : pv_J (pv_fJ h a k) = x := by rw [e3]; exact Int64.ofInt_toInt x
  refine pw_steph hd rfl rfl ?_ (kk (by rw [e3]; exact (pv_J_rep x).1))
  unfold pv_sh
  simp only [hg, e, if_true, e2, e4]
/-- a field that holds a cell is read -/
theorem pw_getR {a k ci t idx : Nat} {t' z : Int} {fts : List (Nat × Int × Int)} (hd : pv_dec M pc = some (.getfield idx, 3)) (hg : pv_gf M idx = some (ci, k)) (hT : pv_Ty τ ρ h) (ha : τ a = some t) (ht : pv_tyO t = some (ci, fts)) (hk : fts[k]? = some (4, t', z)) (kk : τ (ρ a k) = some t'.toNat → pv_T K M (pc + 3) f (.ref (ρ a k) :: st) h Q) : pv_T K M pc f (.ref a :: st) h Q := by
  obtain ⟨fs, e, hl, hf⟩ := (hT a t ha).1 _ ht
  have hkl : k < fs.length := by rw [hl]; exact (List.getElem?_eq_some_iff.mp hk).1
  obtain ⟨hx, h1⟩ := hf k _ _ hk (List.getElem?_eq_getElem hkl)
  have e2 : fs[k]? = some (.ref (ρ a k)) := by rw [List.getElem?_eq_getElem hkl, hx]
  refine pw_steph hd rfl rfl ?_ (kk h1)
  unfold pv_sh
  simp only [hg, e, if_true, e2]
theorem pv_Ty.putF {a k ci t : Nat} {ft : Nat × Int × Int} {v : Value} {fs : List Value} {fts : List (Nat × Int × Int)} (hT : pv_Ty τ ρ h) (ha : τ a = some t) (ht : pv_tyO t = some (ci, fts)) (hA : pv_tyA t = none) (hk : fts[k]? = some ft) (e : h a = some (.inr (ci, fs))) (hv : pv_okF τ ρ a k ft v) : pv_Ty τ ρ (pv_set h a (.inr (ci, fs.set k v))) := by
  intro b u hb
  by_cases hba : b = a
  · subst hba
    cases ha.symm.trans hb
    refine ⟨fun q hq => ?_, fun q hq => ?_⟩
    · cases ht.symm.trans hq
      obtain ⟨fs', e', hl, hf⟩ := (hT b t ha).1 _ ht
      cases e.symm.trans e'
      refine ⟨fs.set k v, pv_set_self, by rw [List.length_set]; exact hl, fun j ft' v' h1 h2 => ?_⟩
      by_cases hj : j = k
      · subst hj
        cases hk.symm.trans h1
        have hkl : j < fs.length := by rw [hl]; exact (List.getElem?_eq_some_iff.mp hk).1
        rw [List.getElem?_set_self hkl] at h2
        cases h2
        exact hv
      · rw [List.getElem?_set_ne (Ne.symm hj)] at h2
        exact hf j ft' v' h1 h2
    · rw [hA] at hq; cases hq
  · obtain ⟨h1, h2⟩ := hT b u hb
    refine ⟨fun q hq => ?_, fun q hq => ?_⟩
    · obtain ⟨fs', e', r⟩ := h1 q hq
      exact ⟨fs', by simp only [pv_set, if_neg hba]; exact e', r⟩
    · have := h2 q hq
      unfold pv_okA at this ⊢
      simp only [pv_set, if_neg hba]
      exact this
theorem pv_Fr.putF {a k ci t : Nat} {v : Value} {fs : List Value} (ha : τ a = some t) (e : h a = some (.inr (ci, fs))) : pv_Fr τ [t * 64 + k] h (pv_set h a (.inr (ci, fs.set k v))) := by
  intro b u hb
  by_cases hba : b = a
  · subst hba
    cases ha.symm.trans hb
    refine ⟨fun j hj => ?_, fun _ i => ?_⟩
    · have hjk : k ≠ j := fun z => hj (by rw [z]; exact List.mem_singleton.mpr rfl)
      simp only [pv_fI, pv_fJ, pv_set_self, e, List.getElem?_set_ne hjk, and_self]
    · simp only [pv_aI, pv_aJ, pv_set_self, e, and_self]
  · exact ⟨fun j _ => ⟨(pv_set_fI hba).1, (pv_set_fI hba).2.1⟩, fun _ i => ⟨(pv_set_fI hba).2.2.1, (pv_set_fI hba).2.2.2⟩⟩
theorem pv_sh_put {a k ci idx : Nat} {v : Value} {ty : FieldType} {fs : List Value} (hg : pv_gf M idx = some (ci, k)) (hty : pv_ft ci k = some ty) (e : h a = some (.inr (ci, fs))) (hn : narrow ty v = v) (hfit : fits ty v = true) (hkl : k < fs.length) (hrk : refKind ty = false) : pv_sh K M pc (.putfield idx) (v :: .ref a :: st) h = some (pc + 3, st, pv_set h a (.inr (ci, fs.set k v))) := by
  unfold pv_ft at hty
  split at hty
  · rename_i q hq
    split at hty
    · rename_i hfin
      unfold pv_sh
      simp only [hg, e, hq, hty, hfin, hn, hfit, hkl, hrk, and_self, if_true]
    · cases hty
  · cases hty
/-- an int field is written -/
theorem pw_putI {a k ci t idx : Nat} {x lo hi : Int} {fts : List (Nat × Int × Int)} (hd : pv_dec M pc = some (.putfield idx, 3)) (hg : pv_gf M idx = some (ci, k)) (hty : pv_ft ci k = some .int) (hT : pv_Ty τ ρ h) (ha : τ a = some t) (ht : pv_tyO t = some (ci, fts)) (hA : pv_tyA t = none) (hk : fts[k]? = some (1, lo, hi)) (hr : pv_r x) (hx : lo ≤ x ∧ x ≤ hi) (kk : ∀ h', pv_Ty τ ρ h' → pv_Fr τ [t * 64 + k] h h' → pv_fI h' a k = x → pv_T K M (pc + 3) f st h' Q) : pv_T K M pc f (.int (pv_I x) :: .ref a :: st) h Q := by
  obtain ⟨fs, e, hl, hf⟩ := (hT a t ha).1 _ ht
  have hkl : k < fs.length := by rw [hl]; exact (List.getElem?_eq_some_iff.mp hk).1
  refine pw_steph hd rfl rfl (pv_sh_put hg hty e rfl rfl hkl rfl) (kk _ (hT.putF ha ht hA hk e ⟨_, rfl, by rw [pv_I_toInt hr]; exact hx.1, by rw [pv_I_toInt hr]; exact hx.2⟩) (pv_Fr.putF ha e) ?_)
  simp only [pv_fI, pv_set_self, List.getElem?_set_self hkl, pv_I_toInt hr]
theorem pw_putZ {a k ci t idx : Nat} {x lo hi : Int} {fts : List (Nat × Int × Int)} (hd : pv_dec M pc = some (.putfield idx, 3)) (hg : pv_gf M idx = some (ci, k)) (hty : pv_ft ci k = some .boolean) (hT : pv_Ty τ ρ h) (ha : τ a = some t) (ht : pv_tyO t = some (ci, fts)) (hA : pv_tyA t = none) (hk : fts[k]? = some (1, lo, hi)) (hr : x = 0 ∨ x = 1) (hx : lo ≤ x ∧ x ≤ hi) (kk : ∀ h', pv_Ty τ ρ h' → pv_Fr τ [t * 64 + k] h h' → pv_fI h' a k = x → pv_T K M (pc + 3) f st h' Q) : pv_T K M pc f (.int (pv_I x) :: .ref a :: st) h Q := by
  obtain ⟨fs, e, hl, hf⟩ := (hT a t ha).1 _ ht
  have hkl : k < fs.length := by rw [hl]; exact (List.getElem?_eq_some_iff.mp hk).1
  have hr2 : pv_r x := by rcases hr with rfl | rfl <;> exact ⟨by omega, by omega⟩
  refine pw_steph hd rfl rfl (pv_sh_put hg hty e (by rcases hr with rfl | rfl <;> rfl) (by rcases hr with rfl | rfl <;> rfl) hkl rfl) (kk _ (hT.putF ha ht hA hk e ⟨_, rfl, by rw [pv_I_toInt hr2]; exact hx.1, by rw [pv_I_toInt hr2]; exact hx.2⟩) (pv_Fr.putF ha e) ?_)
  simp only [pv_fI, pv_set_self, List.getElem?_set_self hkl, pv_I_toInt hr2]
theorem pw_putJ {a k ci t idx : Nat} {x : Int} {fts : List (Nat × Int × Int)} (hd : pv_dec M pc = some (.putfield idx, 3)) (hg : pv_gf M idx = some (ci, k)) (hty : pv_ft ci k = some .long) (hT : pv_Ty τ ρ h) (ha : τ a = some t) (ht : pv_tyO t = some (ci, fts)) (hA : pv_tyA t = none) (hk : fts[k]? = some (2, 0, 0)) (hr : pv_q x) (kk : ∀ h', pv_Ty τ ρ h' → pv_Fr τ [t * 64 + k] h h' → pv_fJ h' a k = x → pv_T K M (pc + 3) f st h' Q) : pv_T K M pc f (.long (pv_J x) :: .ref a :: st) h Q := by
  obtain ⟨fs, e, hl, hf⟩ := (hT a t ha).1 _ ht
  have hkl : k < fs.length := by rw [hl]; exact (List.getElem?_eq_some_iff.mp hk).1
  refine pw_steph hd rfl rfl (pv_sh_put hg hty e rfl rfl hkl rfl) (kk _ (hT.putF ha ht hA hk e ⟨_, rfl⟩) (pv_Fr.putF ha e) ?_)
  simp only [pv_fJ, pv_set_self, List.getElem?_set_self hkl, pv_J_toInt hr]
/-- an int of an array is read; its bounds by the place in the period -/
theorem pw_ialdP {a t n : Nat} {i lo hi : Int} {pat : List (Int × Int)} (hd : pv_dec M pc = some (.iaload, 1)) (hT : pv_Ty τ ρ h) (ha : τ a = some t) (ht : pv_tyA t = some (0, n, 1, pat)) (hn : Nat.ble n 2147483647 = true) (h0 : 0 ≤ i) (hin : i < n) (hq : pat[i.toNat % pat.length]? = some (lo, hi)) (kk : lo ≤ pv_aI h a i.toNat → pv_aI h a i.toNat ≤ hi → pv_T K M (pc + 1) f (.int (pv_I (pv_aI h a i.toNat)) :: st) h Q) : pv_T K M pc f (.int (pv_I i) :: .ref a :: st) h Q := by
  obtain ⟨g, e, hf⟩ := (hT a t ha).2 _ ht
  have hn2 := Nat.le_of_ble_eq_true hn
  obtain ⟨h1, h2⟩ := hf i.toNat (show i.toNat < n by omega) _ hq
  have e3 : pv_aI h a i.toNat = (g i.toNat).toInt := by simp only [pv_aI, e]
  have e4 : pv_I (pv_aI h a i.toNat) = g i.toNat := by rw [e3]; exact Int32.ofInt_toInt _
  refine pw_steph hd rfl rfl ?_ (kk (by rw [e3]; exact h1) (by rw [e3]; exact h2))
  unfold pv_sh
  simp only [e, pv_in_I h0 hin (by omega), if_true, pv_I_nat h0 (by omega), e4]
theorem pw_iald {a t n : Nat} {i lo hi : Int} (hd : pv_dec M pc = some (.iaload, 1)) (hT : pv_Ty τ ρ h) (ha : τ a = some t) (ht : pv_tyA t = some (0, n, 1, [(lo, hi)])) (hn : Nat.ble n 2147483647 = true) (h0 : 0 ≤ i) (hin : i < n) (kk : lo ≤ pv_aI h a i.toNat → pv_aI h a i.toNat ≤ hi → pv_T K M (pc + 1) f (.int (pv_I (pv_aI h a i.toNat)) :: st) h Q) : pv_T K M pc f (.int (pv_I i) :: .ref a :: st) h Q := pw_ialdP hd hT ha ht hn h0 hin (by simp [Nat.mod_one]) kk
theorem pw_bald {a t n kd : Nat} {i lo hi : Int} (hd : pv_dec M pc = some (.baload, 1)) (hT : pv_Ty τ ρ h) (ha : τ a = some t) (ht : pv_tyA t = some (kd, n, 1, [(lo, hi)])) (hkd : kd = 2 ∨ kd = 3) (hn : Nat.ble n 2147483647 = true) (h0 : 0 ≤ i) (hin : i < n) (kk : lo ≤ pv_aI h a i.toNat → pv_aI h a i.toNat ≤ hi → pv_T K M (pc + 1) f (.int (pv_I (pv_aI h a i.toNat)) :: st) h Q) : pv_T K M pc f (.int (pv_I i) :: .ref a :: st) h Q := by
  obtain ⟨g, e, hf⟩ := (hT a t ha).2 _ ht
  have hn2 := Nat.le_of_ble_eq_true hn
  obtain ⟨h1, h2⟩ := hf i.toNat (show i.toNat < n by omega) (lo, hi) (by simp [Nat.mod_one])
  have e3 : pv_aI h a i.toNat = (g i.toNat).toInt := by simp only [pv_aI, e]
  have e4 : pv_I (pv_aI h a i.toNat) = g i.toNat := by rw [e3]; exact Int32.ofInt_toInt _
  refine pw_steph hd rfl rfl ?_ (kk (by rw [e3]; exact h1) (by rw [e3]; exact h2))
  unfold pv_sh
  rcases hkd with rfl | rfl
  · simp only [e, pv_in_I h0 hin (by omega), if_true, pv_I_nat h0 (by omega), e4]
  · simp only [e, pv_in_I h0 hin (by omega), if_true, pv_I_nat h0 (by omega), e4]
theorem pw_lald {a t n : Nat} {i : Int} {pat : List (Int × Int)} (hd : pv_dec M pc = some (.laload, 1)) (hT : pv_Ty τ ρ h) (ha : τ a = some t) (ht : pv_tyA t = some (1, n, 2, pat)) (hn : Nat.ble n 2147483647 = true) (h0 : 0 ≤ i) (hin : i < n) (kk : pv_q (pv_aJ h a i.toNat) → pv_T K M (pc + 1) f (.long (pv_J (pv_aJ h a i.toNat)) :: st) h Q) : pv_T K M pc f (.int (pv_I i) :: .ref a :: st) h Q := by
  obtain ⟨g, e⟩ := (hT a t ha).2 _ ht
  have hn2 := Nat.le_of_ble_eq_true hn
  have e3 : pv_aJ h a i.toNat = (g i.toNat).toInt := by simp only [pv_aJ, e]
  have e4 : pv_J (pv_aJ h a i.toNat) = g i.toNat := by rw [e3]; exact Int64.ofInt_toInt _
  refine pw_steph hd rfl rfl ?_ (kk (by rw [e3]; exact (pv_J_rep _).1))
  unfold pv_sh
  simp only [e, pv_in_I h0 hin (by omega), if_true, pv_I_nat h0 (by omega), e4]
theorem pw_aald {a t n kd : Nat} {i t' z : Int} (hd : pv_dec M pc = some (.aaload, 1)) (hT : pv_Ty τ ρ h) (ha : τ a = some t) (ht : pv_tyA t = some (kd, n, 4, [(t', z)])) (hkd : kd = 4 ∨ kd = 5) (hn : Nat.ble n 2147483647 = true) (h0 : 0 ≤ i) (hin : i < n) (kk : τ (ρ a i.toNat) = some t'.toNat → pv_T K M (pc + 1) f (.ref (ρ a i.toNat) :: st) h Q) : pv_T K M pc f (.int (pv_I i) :: .ref a :: st) h Q := by
  obtain ⟨g, e, hf⟩ := (hT a t ha).2 _ ht
  have hn2 := Nat.le_of_ble_eq_true hn
  obtain ⟨h1, h2⟩ := hf i.toNat (show i.toNat < n by omega)
  refine pw_steph hd rfl rfl ?_ (kk (h2 _ rfl))
  unfold pv_sh
  rcases hkd with rfl | rfl
  · simp only [e, pv_in_I h0 hin (by omega), if_true, pv_I_nat h0 (by omega), h1, va_rf]
  · simp only [e, pv_in_I h0 hin (by omega), if_true, pv_I_nat h0 (by omega), h1, va_rf]
theorem pv_Ty.setA {a t : Nat} {q : Nat × Nat × Nat × List (Int × Int)} {e : pv_E} (hT : pv_Ty τ ρ h) (ha : τ a = some t) (hO : pv_tyO t = none) (ht : pv_tyA t = some q) (hv : ∀ h', h' a = some e → pv_okA τ ρ h' a q.1 q.2.1 q.2.2.1 q.2.2.2) : pv_Ty τ ρ (pv_set h a e) := by
  intro b u hb
  by_cases hba : b = a
  · subst hba
    cases ha.symm.trans hb
    refine ⟨fun q hq => ?_, fun q' hq => ?_⟩
    · rw [hO] at hq; cases hq
    · cases ht.symm.trans hq
      exact hv _ pv_set_self
  · obtain ⟨h1, h2⟩ := hT b u hb
    refine ⟨fun q hq => ?_, fun q hq => ?_⟩
    · obtain ⟨fs', e', r⟩ := h1 q hq
      exact ⟨fs', by simp only [pv_set, if_neg hba]; exact e', r⟩
    · have := h2 q hq
      unfold pv_okA at this ⊢
      simp only [pv_set, if_neg hba]
      exact this
theorem pv_Fr.setA {a t kd n kd' n' : Nat} {x x' : (Nat → Int32) ⊕ (Nat → Int64) ⊕ (Nat → UInt32) ⊕ (Nat → UInt64) ⊕ (Nat → Option Nat)} (ha : τ a = some t) (e : h a = some (.inl (kd, n, x))) : pv_Fr τ [t * 64 + 63] h (pv_set h a (.inl (kd', n', x'))) := by
  intro b u hb
  by_cases hba : b = a
  · subst hba
    cases ha.symm.trans hb
    refine ⟨fun j hj => ?_, fun hz i => absurd (List.mem_singleton.mpr rfl) hz⟩
    simp only [pv_fI, pv_fJ, pv_set_self, e, and_self]
  · exact ⟨fun j _ => ⟨(pv_set_fI hba).1, (pv_set_fI hba).2.1⟩, fun _ i => ⟨(pv_set_fI hba).2.2.1, (pv_set_fI hba).2.2.2⟩⟩
/-- an int of an array is written -/
theorem pw_iastP {a t n : Nat} {i x : Int} {pat : List (Int × Int)} (hd : pv_dec M pc = some (.iastore, 1)) (hT : pv_Ty τ ρ h) (ha : τ a = some t) (ht : pv_tyA t = some (0, n, 1, pat)) (hO : pv_tyO t = none) (hn : Nat.ble n 2147483647 = true) (h0 : 0 ≤ i) (hin : i < n) (hr : pv_r x) (hq : ∀ q, pat[i.toNat % pat.length]? = some q → q.1 ≤ x ∧ x ≤ q.2) (kk : ∀ h', pv_Ty τ ρ h' → pv_Fr τ [t * 64 + 63] h h' → (∀ b j, pv_aI h' b j = if b = a ∧ j = i.toNat then x else pv_aI h b j) → pv_T K M (pc + 1) f st h' Q) : pv_T K M pc f (.int (pv_I x) :: .int (pv_I i) :: .ref a :: st) h Q := by
  obtain ⟨g, e, hf⟩ := (hT a t ha).2 _ ht
  have hn2 := Nat.le_of_ble_eq_true hn
  refine pw_steph hd rfl rfl ?_ (kk (pv_set h a (.inl (0, n, .inl (upd g i.toNat (pv_I x))))) (hT.setA ha hO ht (fun h' e' => ⟨_, e', fun j hj q hjq => ?_⟩)) (pv_Fr.setA ha e) (fun b j => ?_))
  · unfold pv_sh
    simp only [e, pv_in_I h0 hin (by omega), if_true, pv_I_nat h0 (by omega)]
  · by_cases hji : j = i.toNat
    · subst hji
      simp only [upd, if_true, pv_I_toInt hr]
      exact hq q hjq
    · simp only [upd, if_neg hji]
      exact hf j hj q hjq
  · by_cases hba : b = a
    · subst hba
      by_cases hji : j = i.toNat
      · simp only [pv_aI, pv_set_self, upd, hji, and_self, if_true, pv_I_toInt hr]
      · simp only [pv_aI, pv_set_self, upd, hji, and_false, if_false, e]
    · rw [(pv_set_fI hba).2.2.1, if_neg (fun z => hba z.1)]
theorem pw_iast {a t n : Nat} {i x lo hi : Int} (hd : pv_dec M pc = some (.iastore, 1)) (hT : pv_Ty τ ρ h) (ha : τ a = some t) (ht : pv_tyA t = some (0, n, 1, [(lo, hi)])) (hO : pv_tyO t = none) (hn : Nat.ble n 2147483647 = true) (h0 : 0 ≤ i) (hin : i < n) (hr : pv_r x) (hx : lo ≤ x ∧ x ≤ hi) (kk : ∀ h', pv_Ty τ ρ h' → pv_Fr τ [t * 64 + 63] h h' → (∀ b j, pv_aI h' b j = if b = a ∧ j = i.toNat then x else pv_aI h b j) → pv_T K M (pc + 1) f st h' Q) : pv_T K M pc f (.int (pv_I x) :: .int (pv_I i) :: .ref a :: st) h Q := pw_iastP hd hT ha ht hO hn h0 hin hr (fun q hq => by simp [Nat.mod_one] at hq; subst hq; exact hx) kk
theorem pw_last {a t n : Nat} {i x : Int} {pat : List (Int × Int)} (hd : pv_dec M pc = some (.lastore, 1)) (hT : pv_Ty τ ρ h) (ha : τ a = some t) (ht : pv_tyA t = some (1, n, 2, pat)) (hO : pv_tyO t = none) (hn : Nat.ble n 2147483647 = true) (h0 : 0 ≤ i) (hin : i < n) (hr : pv_q x) (kk : ∀ h', pv_Ty τ ρ h' → pv_Fr τ [t * 64 + 63] h h' → (∀ b j, pv_aJ h' b j = if b = a ∧ j = i.toNat then x else pv_aJ h b j) → pv_T K M (pc + 1) f st h' Q) : pv_T K M pc f (.long (pv_J x) :: .int (pv_I i) :: .ref a :: st) h Q := by
  obtain ⟨g, e⟩ := (hT a t ha).2 _ ht
  have hn2 := Nat.le_of_ble_eq_true hn
  refine pw_steph hd rfl rfl ?_ (kk (pv_set h a (.inl (1, n, .inr (.inl (vp_updL g i.toNat (pv_J x)))))) (hT.setA ha hO ht (fun h' e' => ⟨_, e'⟩)) (pv_Fr.setA ha e) (fun b j => ?_))
  · unfold pv_sh
    simp only [e, pv_in_I h0 hin (by omega), if_true, pv_I_nat h0 (by omega)]
  · by_cases hba : b = a
    · subst hba
      by_cases hji : j = i.toNat
      · simp only [pv_aJ, pv_set_self, vp_updL, hji, and_self, if_true, pv_J_toInt hr]
      · simp only [pv_aJ, pv_set_self, vp_updL, hji, and_false, if_false, e]
    · rw [(pv_set_fI hba).2.2.2, if_neg (fun z => hba z.1)]
theorem pv_nar_byte (x : Int32) : -128 ≤ (vp_nar .byte x).toInt ∧ (vp_nar .byte x).toInt ≤ 127 := by
  show -128 ≤ (x.toInt8.toInt32).toInt ∧ (x.toInt8.toInt32).toInt ≤ 127
  rw [Int8.toInt_toInt32]
  have h1 := Int8.le_toInt x.toInt8
  have h2 := Int8.toInt_lt x.toInt8
  omega
theorem pw_bastB {a t n : Nat} {i : Int} {x : Int32} (hd : pv_dec M pc = some (.bastore, 1)) (hT : pv_Ty τ ρ h) (ha : τ a = some t) (ht : pv_tyA t = some (2, n, 1, [(-128, 127)])) (hO : pv_tyO t = none) (hn : Nat.ble n 2147483647 = true) (h0 : 0 ≤ i) (hin : i < n) (kk : ∀ h', pv_Ty τ ρ h' → pv_Fr τ [t * 64 + 63] h h' → (∀ b j, pv_aI h' b j = if b = a ∧ j = i.toNat then (vp_nar .byte x).toInt else pv_aI h b j) → pv_T K M (pc + 1) f st h' Q) : pv_T K M pc f (.int x :: .int (pv_I i) :: .ref a :: st) h Q := by
  obtain ⟨g, e, hf⟩ := (hT a t ha).2 _ ht
  have hn2 := Nat.le_of_ble_eq_true hn
  refine pw_steph hd rfl rfl ?_ (kk (pv_set h a (.inl (2, n, .inl (upd g i.toNat (vp_nar .byte x))))) (hT.setA ha hO ht (fun h' e' => ⟨_, e', fun j hj q hjq => ?_⟩)) (pv_Fr.setA ha e) (fun b j => ?_))
  · unfold pv_sh
    simp only [e, pv_in_I h0 hin (by omega), if_true, pv_I_nat h0 (by omega)]
  · by_cases hji : j = i.toNat
    · subst hji
      simp only [upd, if_true]
      simp [Nat.mod_one] at hjq
      subst hjq
      exact pv_nar_byte x
    · simp only [upd, if_neg hji]
      exact hf j hj q hjq
  · by_cases hba : b = a
    · subst hba
      by_cases hji : j = i.toNat
      · simp only [pv_aI, pv_set_self, upd, hji, and_self, if_true]
      · simp only [pv_aI, pv_set_self, upd, hji, and_false, if_false, e]
    · rw [(pv_set_fI hba).2.2.1, if_neg (fun z => hba z.1)]
theorem pw_bastZ {a t n : Nat} {i x : Int} (hd : pv_dec M pc = some (.bastore, 1)) (hT : pv_Ty τ ρ h) (ha : τ a = some t) (ht : pv_tyA t = some (3, n, 1, [(0, 1)])) (hO : pv_tyO t = none) (hn : Nat.ble n 2147483647 = true) (h0 : 0 ≤ i) (hin : i < n) (hx : x = 0 ∨ x = 1) (kk : ∀ h', pv_Ty τ ρ h' → pv_Fr τ [t * 64 + 63] h h' → (∀ b j, pv_aI h' b j = if b = a ∧ j = i.toNat then x else pv_aI h b j) → pv_T K M (pc + 1) f st h' Q) : pv_T K M pc f (.int (pv_I x) :: .int (pv_I i) :: .ref a :: st) h Q := by
  obtain ⟨g, e, hf⟩ := (hT a t ha).2 _ ht
  have hn2 := Nat.le_of_ble_eq_true hn
  have hnx : (vp_nar .boolean (pv_I x)).toInt = x := by rcases hx with rfl | rfl <;> rfl
  refine pw_steph hd rfl rfl ?_ (kk (pv_set h a (.inl (3, n, .inl (upd g i.toNat (vp_nar .boolean (pv_I x)))))) (hT.setA ha hO ht (fun h' e' => ⟨_, e', fun j hj q hjq => ?_⟩)) (pv_Fr.setA ha e) (fun b j => ?_))
  · unfold pv_sh
    simp only [e, pv_in_I h0 hin (by omega), if_true, pv_I_nat h0 (by omega)]
  · by_cases hji : j = i.toNat
    · subst hji
      simp only [upd, if_true]
      simp [Nat.mod_one] at hjq
      subst hjq
      rw [hnx]
      omega
    · simp only [upd, if_neg hji]
      exact hf j hj q hjq
  · by_cases hba : b = a
    · subst hba
      by_cases hji : j = i.toNat
      · simp only [pv_aI, pv_set_self, upd, hji, and_self, if_true, hnx]
      · simp only [pv_aI, pv_set_self, upd, hji, and_false, if_false, e]
    · rw [(pv_set_fI hba).2.2.1, if_neg (fun z => hba z.1)]
theorem pw_alen {a t n kd cd : Nat} {pat : List (Int × Int)} (hd : pv_dec M pc = some (.arraylength, 1)) (hT : pv_Ty τ ρ h) (ha : τ a = some t) (ht : pv_tyA t = some (kd, n, cd, pat)) (hkd : (kd = 0 ∧ cd = 1) ∨ (kd = 1 ∧ cd = 2)) (kk : pv_T K M (pc + 1) f (.int (pv_I n) :: st) h Q) : pv_T K M pc f (.ref a :: st) h Q := by
  have h1 := (hT a t ha).2 _ ht
  have e5 : Int32.ofNat n = pv_I (n : Int) := (Int32.ofInt_eq_ofNat).symm
  rcases hkd with ⟨rfl, rfl⟩ | ⟨rfl, rfl⟩
  · obtain ⟨g, e, -⟩ := h1
    refine pw_steph hd rfl rfl ?_ kk
    unfold pv_sh
    simp only [e, e5]
  · obtain ⟨g, e⟩ := h1
    refine pw_steph hd rfl rfl ?_ kk
    unfold pv_sh
    simp only [e, e5]
theorem pw_callVa {M' ci np mL' t b : Nat} {fts : List (Nat × Int × Int)} {as : List Value} {Q' : Option Value → pv_H → Prop} {idx : Nat} (hd : pv_dec M pc = some (.invokevirtual idx, 3)) (hk : pv_kV M idx M' ci np mL' = true) (hT : pv_Ty τ ρ h) (hb : τ b = some t) (ht : pv_tyO t = some (ci, fts)) (hn : as.length = np) (hr : Nat.ble (st.map fun v => v.category).sum 8 = true) (hsl : Nat.ble (lg_sl (.ref b :: as)).length mL' = true) (hc : pv_C K M' (.ref b :: as) h Q') (kk : ∀ z h', Q' z h' → pv_T K M (pc + 3) f (z.toList ++ st) h' Q) : pv_T K M pc f (as.reverse ++ .ref b :: st) h Q := by
  obtain ⟨fs, e, -⟩ := (hT b t hb).1 _ ht
  unfold pv_kV at hk
  split at hk
  · rename_i y hy
    simp only [Bool.and_eq_true, decide_eq_true_eq] at hk
    obtain ⟨⟨⟨⟨⟨⟨k1, k2⟩, k3⟩, k4⟩, k5⟩, k6⟩, k7⟩ := hk
    refine pw_call hd rfl rfl ?_ rfl ?_ hc kk
    · unfold pv_sh
      simp only [hy, k1, k2, if_false]
    · have hnp : as.reverse.length = pv_np M' := by rw [List.length_reverse, hn, k4]
      have e1 : (as.reverse ++ .ref b :: st).drop (pv_np M') = .ref b :: st := by rw [← hnp, List.drop_left]
      have e2 : (as.reverse ++ .ref b :: st).take (pv_np M') = as.reverse := by rw [← hnp, List.take_left]
      unfold pv_cs
      simp only [hy, k3, e1, e2, e, List.reverse_reverse]
      rw [if_pos ⟨k5, k6, Nat.le_of_ble_eq_true hr, hnp, by rw [k7]; exact Nat.le_of_ble_eq_true hsl⟩]
  · cases hk
theorem pw_callSa {M' np mL' : Nat} {as : List Value} {Q' : Option Value → pv_H → Prop} {idx : Nat} (hd : pv_dec M pc = some (.invokestatic idx, 3)) (hk : pv_kS M idx M' np mL' = true) (hn : as.length = np) (hr : Nat.ble (st.map fun v => v.category).sum 8 = true) (hsl : Nat.ble (lg_sl as).length mL' = true) (hc : pv_C K M' as h Q') (kk : ∀ z h', Q' z h' → pv_T K M (pc + 3) f (z.toList ++ st) h' Q) : pv_T K M pc f (as.reverse ++ st) h Q := by
  unfold pv_kS at hk
  split at hk
  · rename_i y o hy
    simp only [Bool.and_eq_true, decide_eq_true_eq] at hk
    obtain ⟨⟨⟨⟨⟨⟨⟨k1, l1⟩, l2⟩, l3⟩, k3⟩, k4⟩, k6⟩, k7⟩ := hk
    refine pw_call hd rfl rfl ?_ rfl ?_ hc kk
    · unfold pv_sh
      cases o with
      | none => simp only [hy, k1, l1, l2, l3, false_and, if_false]
      | some z => simp only [hy]
    · have hnp : as.reverse.length = pv_np M' := by rw [List.length_reverse, hn, k4]
      have e1 : (as.reverse ++ st).drop (pv_np M') = st := by rw [← hnp, List.drop_left]
      have e2 : (as.reverse ++ st).take (pv_np M') = as.reverse := by rw [← hnp, List.take_left]
      unfold pv_cs
      simp only [hy, k3, e1, e2, List.reverse_reverse]
      rw [if_pos ⟨k6, Nat.le_of_ble_eq_true hr, hnp, by rw [k7]; exact Nat.le_of_ble_eq_true hsl⟩]
  · cases hk
theorem pw_name {x : Int} (k : ∀ z, z = x → pv_T K M pc f (.int (pv_I z) :: st) h Q) : pv_T K M pc f (.int (pv_I x) :: st) h Q := k x rfl
theorem pw_namel {x : Int} (k : ∀ z, z = x → pv_T K M pc f (.long (pv_J z) :: st) h Q) : pv_T K M pc f (.long (pv_J x) :: st) h Q := k x rfl
theorem pv_mu (x : Int) : x < ((x + 1).toNat : Nat) := by omega
theorem pw_lookIn {x d off : Int} {ps : Array (Int × Int)} {len t : Nat} (hd : pv_dec M pc = some (.lookupswitch d ps, len)) (hx : pv_r x) (hp : (ps.toList.zip (ps.toList.drop 1)).all (fun (a, next) => a.1 < next.1) = true) (ho : Op.lookupswitch.offset ps.toList d x = off) (ht : pv_tg pc off = some t) (k : pv_T K M t f st h Q) : pv_T K M pc f (.int (pv_I x) :: st) h Q := pw_step hd rfl (by simp only [pv_sp]; rw [if_pos hp, pv_I_toInt hx, ho, ht]) k
theorem pv_dec_of {M pc : Nat} {c : ByteArray} {q : Instr × Nat} (hb : pv_bc M = c) (hd : decode c pc = .ok q) : pv_dec M pc = some q := by
  unfold pv_dec
  rw [hb, hd]
theorem pw_callV0 {M' ci mL' t b : Nat} {fts : List (Nat × Int × Int)} {Q' : Option Value → pv_H → Prop} {idx : Nat} (hd : pv_dec M pc = some (.invokevirtual idx, 3)) (hk : pv_kV M idx M' ci 0 mL' = true) (hT : pv_Ty τ ρ h) (hb : τ b = some t) (ht : pv_tyO t = some (ci, fts)) (hr : Nat.ble (st.map fun v => v.category).sum 8 = true) (hsl : Nat.ble (lg_sl ([.ref b] : List Value)).length mL' = true) (hc : pv_C K M' [.ref b] h Q') (kk : ∀ z h', Q' z h' → pv_T K M (pc + 3) f (z.toList ++ st) h' Q) : pv_T K M pc f (.ref b :: st) h Q := pw_callVa (as := []) hd hk hT hb ht rfl hr hsl hc kk
theorem pw_callV1 {M' ci mL' t b : Nat} {fts : List (Nat × Int × Int)} {v1 : Value} {Q' : Option Value → pv_H → Prop} {idx : Nat} (hd : pv_dec M pc = some (.invokevirtual idx, 3)) (hk : pv_kV M idx M' ci 1 mL' = true) (hT : pv_Ty τ ρ h) (hb : τ b = some t) (ht : pv_tyO t = some (ci, fts)) (hr : Nat.ble (st.map fun v => v.category).sum 8 = true) (hsl : Nat.ble (lg_sl ([.ref b, v1] : List Value)).length mL' = true) (hc : pv_C K M' [.ref b, v1] h Q') (kk : ∀ z h', Q' z h' → pv_T K M (pc + 3) f (z.toList ++ st) h' Q) : pv_T K M pc f (v1 :: .ref b :: st) h Q := pw_callVa (as := [v1]) hd hk hT hb ht rfl hr hsl hc kk
theorem pw_callS1 {M' mL' : Nat} {v1 : Value} {Q' : Option Value → pv_H → Prop} {idx : Nat} (hd : pv_dec M pc = some (.invokestatic idx, 3)) (hk : pv_kS M idx M' 1 mL' = true) (hr : Nat.ble (st.map fun v => v.category).sum 8 = true) (hsl : Nat.ble (lg_sl ([v1] : List Value)).length mL' = true) (hc : pv_C K M' [v1] h Q') (kk : ∀ z h', Q' z h' → pv_T K M (pc + 3) f (z.toList ++ st) h' Q) : pv_T K M pc f (v1 :: st) h Q := pw_callSa (as := [v1]) hd hk rfl hr hsl hc kk
theorem pw_callV2 {M' ci mL' t b : Nat} {fts : List (Nat × Int × Int)} {v1 v2 : Value} {Q' : Option Value → pv_H → Prop} {idx : Nat} (hd : pv_dec M pc = some (.invokevirtual idx, 3)) (hk : pv_kV M idx M' ci 2 mL' = true) (hT : pv_Ty τ ρ h) (hb : τ b = some t) (ht : pv_tyO t = some (ci, fts)) (hr : Nat.ble (st.map fun v => v.category).sum 8 = true) (hsl : Nat.ble (lg_sl ([.ref b, v1, v2] : List Value)).length mL' = true) (hc : pv_C K M' [.ref b, v1, v2] h Q') (kk : ∀ z h', Q' z h' → pv_T K M (pc + 3) f (z.toList ++ st) h' Q) : pv_T K M pc f (v2 :: v1 :: .ref b :: st) h Q := pw_callVa (as := [v1, v2]) hd hk hT hb ht rfl hr hsl hc kk
theorem pw_callS2 {M' mL' : Nat} {v1 v2 : Value} {Q' : Option Value → pv_H → Prop} {idx : Nat} (hd : pv_dec M pc = some (.invokestatic idx, 3)) (hk : pv_kS M idx M' 2 mL' = true) (hr : Nat.ble (st.map fun v => v.category).sum 8 = true) (hsl : Nat.ble (lg_sl ([v1, v2] : List Value)).length mL' = true) (hc : pv_C K M' [v1, v2] h Q') (kk : ∀ z h', Q' z h' → pv_T K M (pc + 3) f (z.toList ++ st) h' Q) : pv_T K M pc f (v2 :: v1 :: st) h Q := pw_callSa (as := [v1, v2]) hd hk rfl hr hsl hc kk
theorem pw_callV3 {M' ci mL' t b : Nat} {fts : List (Nat × Int × Int)} {v1 v2 v3 : Value} {Q' : Option Value → pv_H → Prop} {idx : Nat} (hd : pv_dec M pc = some (.invokevirtual idx, 3)) (hk : pv_kV M idx M' ci 3 mL' = true) (hT : pv_Ty τ ρ h) (hb : τ b = some t) (ht : pv_tyO t = some (ci, fts)) (hr : Nat.ble (st.map fun v => v.category).sum 8 = true) (hsl : Nat.ble (lg_sl ([.ref b, v1, v2, v3] : List Value)).length mL' = true) (hc : pv_C K M' [.ref b, v1, v2, v3] h Q') (kk : ∀ z h', Q' z h' → pv_T K M (pc + 3) f (z.toList ++ st) h' Q) : pv_T K M pc f (v3 :: v2 :: v1 :: .ref b :: st) h Q := pw_callVa (as := [v1, v2, v3]) hd hk hT hb ht rfl hr hsl hc kk
theorem pw_callS3 {M' mL' : Nat} {v1 v2 v3 : Value} {Q' : Option Value → pv_H → Prop} {idx : Nat} (hd : pv_dec M pc = some (.invokestatic idx, 3)) (hk : pv_kS M idx M' 3 mL' = true) (hr : Nat.ble (st.map fun v => v.category).sum 8 = true) (hsl : Nat.ble (lg_sl ([v1, v2, v3] : List Value)).length mL' = true) (hc : pv_C K M' [v1, v2, v3] h Q') (kk : ∀ z h', Q' z h' → pv_T K M (pc + 3) f (z.toList ++ st) h' Q) : pv_T K M pc f (v3 :: v2 :: v1 :: st) h Q := pw_callSa (as := [v1, v2, v3]) hd hk rfl hr hsl hc kk
theorem pw_callV4 {M' ci mL' t b : Nat} {fts : List (Nat × Int × Int)} {v1 v2 v3 v4 : Value} {Q' : Option Value → pv_H → Prop} {idx : Nat} (hd : pv_dec M pc = some (.invokevirtual idx, 3)) (hk : pv_kV M idx M' ci 4 mL' = true) (hT : pv_Ty τ ρ h) (hb : τ b = some t) (ht : pv_tyO t = some (ci, fts)) (hr : Nat.ble (st.map fun v => v.category).sum 8 = true) (hsl : Nat.ble (lg_sl ([.ref b, v1, v2, v3, v4] : List Value)).length mL' = true) (hc : pv_C K M' [.ref b, v1, v2, v3, v4] h Q') (kk : ∀ z h', Q' z h' → pv_T K M (pc + 3) f (z.toList ++ st) h' Q) : pv_T K M pc f (v4 :: v3 :: v2 :: v1 :: .ref b :: st) h Q := pw_callVa (as := [v1, v2, v3, v4]) hd hk hT hb ht rfl hr hsl hc kk
theorem pw_callS4 {M' mL' : Nat} {v1 v2 v3 v4 : Value} {Q' : Option Value → pv_H → Prop} {idx : Nat} (hd : pv_dec M pc = some (.invokestatic idx, 3)) (hk : pv_kS M idx M' 4 mL' = true) (hr : Nat.ble (st.map fun v => v.category).sum 8 = true) (hsl : Nat.ble (lg_sl ([v1, v2, v3, v4] : List Value)).length mL' = true) (hc : pv_C K M' [v1, v2, v3, v4] h Q') (kk : ∀ z h', Q' z h' → pv_T K M (pc + 3) f (z.toList ++ st) h' Q) : pv_T K M pc f (v4 :: v3 :: v2 :: v1 :: st) h Q := pw_callSa (as := [v1, v2, v3, v4]) hd hk rfl hr hsl hc kk
theorem pw_callV5 {M' ci mL' t b : Nat} {fts : List (Nat × Int × Int)} {v1 v2 v3 v4 v5 : Value} {Q' : Option Value → pv_H → Prop} {idx : Nat} (hd : pv_dec M pc = some (.invokevirtual idx, 3)) (hk : pv_kV M idx M' ci 5 mL' = true) (hT : pv_Ty τ ρ h) (hb : τ b = some t) (ht : pv_tyO t = some (ci, fts)) (hr : Nat.ble (st.map fun v => v.category).sum 8 = true) (hsl : Nat.ble (lg_sl ([.ref b, v1, v2, v3, v4, v5] : List Value)).length mL' = true) (hc : pv_C K M' [.ref b, v1, v2, v3, v4, v5] h Q') (kk : ∀ z h', Q' z h' → pv_T K M (pc + 3) f (z.toList ++ st) h' Q) : pv_T K M pc f (v5 :: v4 :: v3 :: v2 :: v1 :: .ref b :: st) h Q := pw_callVa (as := [v1, v2, v3, v4, v5]) hd hk hT hb ht rfl hr hsl hc kk
theorem pw_callS5 {M' mL' : Nat} {v1 v2 v3 v4 v5 : Value} {Q' : Option Value → pv_H → Prop} {idx : Nat} (hd : pv_dec M pc = some (.invokestatic idx, 3)) (hk : pv_kS M idx M' 5 mL' = true) (hr : Nat.ble (st.map fun v => v.category).sum 8 = true) (hsl : Nat.ble (lg_sl ([v1, v2, v3, v4, v5] : List Value)).length mL' = true) (hc : pv_C K M' [v1, v2, v3, v4, v5] h Q') (kk : ∀ z h', Q' z h' → pv_T K M (pc + 3) f (z.toList ++ st) h' Q) : pv_T K M pc f (v5 :: v4 :: v3 :: v2 :: v1 :: st) h Q := pw_callSa (as := [v1, v2, v3, v4, v5]) hd hk rfl hr hsl hc kk
end PY
end
section
section PM
variable {K : Nat → Nat} {M pc : Nat} {f : pv_F} {st : List Value} {h : pv_H} {Q : Option Value → pv_H → Prop} {τ : Nat → Option Nat} {ρ : Nat → Nat → Nat}
def pv_kC (M idx : Nat) : Bool := match pv_ml M idx with
  | some (y, none) => decide (y = pv_cpn) && pv_okC M
  | _ => false
/-- System.arraycopy of ints -/
theorem pw_copyG {a0 a t0 t n0 n1 idx : Nat} {sp dp n : Int} {p0 p1 : List (Int × Int)} (hd : pv_dec M pc = some (.invokestatic idx, 3)) (hk : pv_kC M idx = true) (hT : pv_Ty τ ρ h) (ha0 : τ a0 = some t0) (ha : τ a = some t) (ht0 : pv_tyA t0 = some (0, n0, 1, p0)) (ht : pv_tyA t = some (0, n1, 1, p1)) (hO : pv_tyO t = none) (hn0 : Nat.ble n0 2147483647 = true) (hn1 : Nat.ble n1 2147483647 = true) (hr : Nat.ble (st.map fun v => v.category).sum 8 = true) (h0 : 0 ≤ sp) (h1 : 0 ≤ dp) (h2 : 0 ≤ n) (h3 : sp + n ≤ n0) (h4 : dp + n ≤ n1)
    (hel : ∀ i : Nat, (i : Int) < n → ∀ q, p1[(dp.toNat + i) % p1.length]? = some q → q.1 ≤ pv_aI h a0 (sp.toNat + i) ∧ pv_aI h a0 (sp.toNat + i) ≤ q.2)
    (kk : ∀ h', pv_Ty τ ρ h' → pv_Fr τ [t * 64 + 63] h h' → (∀ b j, pv_aI h' b j = if b = a ∧ dp.toNat ≤ j ∧ j < dp.toNat + n.toNat then pv_aI h a0 (sp.toNat + (j - dp.toNat)) else pv_aI h b j) → pv_T K M (pc + 3) f st h' Q) : pv_T K M pc f (.int (pv_I n) :: .int (pv_I dp) :: .ref a :: .int (pv_I sp) :: .ref a0 :: st) h Q := by
  obtain ⟨g0, e0, hf0⟩ := (hT a0 t0 ha0).2 _ ht0
  obtain ⟨g1, e1, hf1⟩ := (hT a t ha).2 _ ht
  have hm0 := Nat.le_of_ble_eq_true hn0
  have hm1 := Nat.le_of_ble_eq_true hn1
  have hsum := Nat.le_of_ble_eq_true hr
  have hz : pv_r 0 := ⟨by omega, by omega⟩
  have e3 : ∀ j, pv_aI h a0 j = (g0 j).toInt := fun j => by simp only [pv_aI, e0]
  have e4 : ∀ j, pv_aI h a j = (g1 j).toInt := fun j => by simp only [pv_aI, e1]
  unfold pv_kC at hk
  split at hk
  · rename_i y hy
    simp only [Bool.and_eq_true, decide_eq_true_eq] at hk
    obtain ⟨rfl, hok⟩ := hk
    refine pw_steph hd rfl rfl ?_ (kk (pv_set h a (.inl (0, n1, .inl (va_cpy g0 g1 sp.toNat dp.toNat n.toNat)))) (hT.setA ha hO ht (fun h' e' => ⟨_, e', fun j hj q hjq => ?_⟩)) (pv_Fr.setA ha e1) (fun b j => ?_))
    · unfold pv_sh
      have c1 : ¬ pv_I sp < 0 := fun z => by have := (pv_I_lt (y := 0) ⟨by omega, by omega⟩ hz).mp z; omega
      have c2 : ¬ pv_I dp < 0 := fun z => by have := (pv_I_lt (y := 0) ⟨by omega, by omega⟩ hz).mp z; omega
      have c3 : ¬ pv_I n < 0 := fun z => by have := (pv_I_lt (y := 0) ⟨by omega, by omega⟩ hz).mp z; omega
      simp only [hy, hok, and_self, if_true]
      rw [if_pos ⟨hsum, c1, c2, c3⟩]
      simp only [e0, e1, pv_I_nat h0 (by omega), pv_I_nat h1 (by omega), pv_I_nat h2 (by omega)]
      rw [if_pos ⟨by omega, by omega⟩]
    · show q.1 ≤ (va_cpy g0 g1 sp.toNat dp.toNat n.toNat j).toInt ∧ (va_cpy g0 g1 sp.toNat dp.toNat n.toNat j).toInt ≤ q.2
      unfold va_cpy
      by_cases hc : dp.toNat ≤ j ∧ j < dp.toNat + n.toNat
      · rw [if_pos hc]
        have := hel (j - dp.toNat) (by omega) q (by rw [show dp.toNat + (j - dp.toNat) = j by omega]; exact hjq)
        rw [e3] at this
        exact this
      · rw [if_neg hc]
        exact hf1 j hj q hjq
    · by_cases hba : b = a
      · subst hba
        by_cases hc : dp.toNat ≤ j ∧ j < dp.toNat + n.toNat
        · rw [if_pos ⟨rfl, hc⟩, e3]
          simp only [pv_aI, pv_set_self, va_cpy, if_pos hc]
        · rw [if_neg (fun z => hc z.2), e4]
          simp only [pv_aI, pv_set_self, va_cpy, if_neg hc]
      · rw [(pv_set_fI hba).2.2.1, if_neg (fun z => hba z.1)]
  · cases hk
/-- two arrays of one type, from their starts on -/
theorem pw_copyT {a0 a t n1 idx : Nat} {n : Int} {p1 : List (Int × Int)} (hd : pv_dec M pc = some (.invokestatic idx, 3)) (hk : pv_kC M idx = true) (hT : pv_Ty τ ρ h) (ha0 : τ a0 = some t) (ha : τ a = some t) (ht : pv_tyA t = some (0, n1, 1, p1)) (hO : pv_tyO t = none) (hn1 : Nat.ble n1 2147483647 = true) (hr : Nat.ble (st.map fun v => v.category).sum 8 = true) (h2 : 0 ≤ n) (h4 : n ≤ n1)
    (kk : ∀ h', pv_Ty τ ρ h' → pv_Fr τ [t * 64 + 63] h h' → (∀ b j, pv_aI h' b j = if b = a ∧ j < n.toNat then pv_aI h a0 j else pv_aI h b j) → pv_T K M (pc + 3) f st h' Q) : pv_T K M pc f (.int (pv_I n) :: .int (pv_I 0) :: .ref a :: .int (pv_I 0) :: .ref a0 :: st) h Q := by
  refine pw_copyG hd hk hT ha0 ha ht ht hO hn1 hn1 hr (by omega) (by omega) h2 (by omega) (by omega) (fun i hi q hq => ?_) (fun h' T' F' E' => kk h' T' F' (fun b j => ?_))
  · obtain ⟨g0, e0, hf0⟩ := (hT a0 t ha0).2 _ ht
    have e3 : ∀ j, pv_aI h a0 j = (g0 j).toInt := fun j => by simp only [pv_aI, e0]
    have e6 : (0 : Int).toNat + i = i := by simp
    rw [e6] at hq ⊢
    rw [e3]
    exact hf0 i (show i < n1 by omega) q hq
  · rw [E' b j]
    simp only [Int.toNat_zero, Nat.zero_add, Nat.sub_zero, Nat.zero_le, true_and]
theorem pw_copyL {a0 a t0 t n0 n1 idx : Nat} {sp dp n : Int} {p0 p1 : List (Int × Int)} (hd : pv_dec M pc = some (.invokestatic idx, 3)) (hk : pv_kC M idx = true) (hT : pv_Ty τ ρ h) (ha0 : τ a0 = some t0) (ha : τ a = some t) (ht0 : pv_tyA t0 = some (1, n0, 2, p0)) (ht : pv_tyA t = some (1, n1, 2, p1)) (hO : pv_tyO t = none) (hn0 : Nat.ble n0 2147483647 = true) (hn1 : Nat.ble n1 2147483647 = true) (hr : Nat.ble (st.map fun v => v.category).sum 8 = true) (h0 : 0 ≤ sp) (h1 : 0 ≤ dp) (h2 : 0 ≤ n) (h3 : sp + n ≤ n0) (h4 : dp + n ≤ n1)
    (kk : ∀ h', pv_Ty τ ρ h' → pv_Fr τ [t * 64 + 63] h h' → pv_T K M (pc + 3) f st h' Q) : pv_T K M pc f (.int (pv_I n) :: .int (pv_I dp) :: .ref a :: .int (pv_I sp) :: .ref a0 :: st) h Q := by
  obtain ⟨g0, e0⟩ := (hT a0 t0 ha0).2 _ ht0
  obtain ⟨g1, e1⟩ := (hT a t ha).2 _ ht
  have hm0 := Nat.le_of_ble_eq_true hn0
  have hm1 := Nat.le_of_ble_eq_true hn1
  have hsum := Nat.le_of_ble_eq_true hr
  have hz : pv_r 0 := ⟨by omega, by omega⟩
  unfold pv_kC at hk
  split at hk
  · rename_i y hy
    simp only [Bool.and_eq_true, decide_eq_true_eq] at hk
    obtain ⟨rfl, hok⟩ := hk
    refine pw_steph hd rfl rfl ?_ (kk (pv_set h a (.inl (1, n1, .inr (.inl (va_cpy g0 g1 sp.toNat dp.toNat n.toNat))))) (hT.setA ha hO ht (fun h' e' => ⟨_, e'⟩)) (pv_Fr.setA ha e1))
    unfold pv_sh
    have c1 : ¬ pv_I sp < 0 := fun z => by have := (pv_I_lt (y := 0) ⟨by omega, by omega⟩ hz).mp z; omega
    have c2 : ¬ pv_I dp < 0 := fun z => by have := (pv_I_lt (y := 0) ⟨by omega, by omega⟩ hz).mp z; omega
    have c3 : ¬ pv_I n < 0 := fun z => by have := (pv_I_lt (y := 0) ⟨by omega, by omega⟩ hz).mp z; omega
    simp only [hy, hok, and_self, if_true]
    rw [if_pos ⟨hsum, c1, c2, c3⟩]
    simp only [e0, e1, pv_I_nat h0 (by omega), pv_I_nat h1 (by omega), pv_I_nat h2 (by omega)]
    rw [if_pos ⟨by omega, by omega⟩]
  · cases hk
/-- the literals: each is found by its place -/
def pv_Kok (K : Nat → Nat) : Prop := ∀ q, q < 9 → pv_si K (K q) = some q
def pv_kL (M idx : Nat) (y : MethodName) : Bool := match pv_ml M idx with
  | some (y', none) => decide (y' = y) && pv_okL M
  | _ => false
theorem pv_len_ok : ∀ q, q < 9 → 2 ≤ pv_len.getD q 0 ∧ pv_len.getD q 0 ≤ 6 := by decide
theorem pw_slen {q idx : Nat} (hd : pv_dec M pc = some (.invokevirtual idx, 3)) (hk : pv_kL M idx pv_sln = true) (hK : pv_Kok K) (hq : q < 9) (hr : Nat.ble (st.map fun v => v.category).sum 8 = true) (kk : (2 : Int) ≤ pv_len.getD q 0 → (pv_len.getD q 0 : Int) ≤ 6 → pv_T K M (pc + 3) f (.int (pv_I (pv_len.getD q 0)) :: st) h Q) : pv_T K M pc f (.ref (K q) :: st) h Q := by
  have hsum := Nat.le_of_ble_eq_true hr
  obtain ⟨l1, l2⟩ := pv_len_ok q hq
  unfold pv_kL at hk
  split at hk
  · rename_i y hy
    simp only [Bool.and_eq_true, decide_eq_true_eq] at hk
    obtain ⟨rfl, hok⟩ := hk
    refine pw_steph hd rfl rfl ?_ (kk (by omega) (by omega))
    have e5 : nI (pv_len.getD q 0) = pv_I (pv_len.getD q 0 : Int) := (Int32.ofInt_eq_ofNat).symm
    unfold pv_sh
    simp only [hy, if_true, hK q hq, e5]
    rw [if_pos ⟨hok, hsum⟩]
  · cases hk
theorem pw_scha {q idx : Nat} {j : Int} (hd : pv_dec M pc = some (.invokevirtual idx, 3)) (hk : pv_kL M idx pv_scn = true) (hK : pv_Kok K) (hq : q < 9) (hr : Nat.ble (st.map fun v => v.category).sum 8 = true) (h0 : 0 ≤ j) (hj : j < pv_len.getD q 0) (kk : ∀ z, pv_r z → (pv_byt.getD q []).getD j.toNat 0 &&& 255 = pv_I z → pv_T K M (pc + 3) f (.int (pv_I z) :: st) h Q) : pv_T K M pc f (.int (pv_I j) :: .ref (K q) :: st) h Q := by
  have hsum := Nat.le_of_ble_eq_true hr
  obtain ⟨l1, l2⟩ := pv_len_ok q hq
  unfold pv_kL at hk
  split at hk
  · rename_i y hy
    simp only [Bool.and_eq_true, decide_eq_true_eq] at hk
    obtain ⟨rfl, hok⟩ := hk
    refine pw_steph hd rfl rfl ?_ (pw_any kk)
    unfold pv_sh
    simp only [hy, if_true, hK q hq]
    rw [if_neg (by decide), if_pos ⟨hok, hsum, pv_in_I h0 hj (by omega)⟩, pv_I_nat h0 (by omega)]
  · cases hk
end PM
section PM2
variable {K : Nat → Nat} {M pc n : Nat} {l : List (Option Value)} {st : List Value} {h : pv_H} {Q : Option Value → pv_H → Prop}
theorem pw_iincU {j : Nat} {x z : Int} (hd : pv_dec M pc = some (.iinc j z, 3)) (hn : pv_mL M = n) (hj : Nat.blt j n = true) (hl : Nat.blt j l.length = true) (hf : l[j]? = some (some (.int (pv_I x)))) (k : ∀ w, pv_r w → pv_T K M (pc + 3) (pv_fl (pv_ls l j (.int (pv_I w)))) st h Q) : pv_T K M pc (pv_fl l) st h Q := by
  refine pw_iinc hd hn hj hl hf ?_
  have h1 := pv_I_rep (pv_I (x + z))
  rw [h1.2]
  exact k _ h1.1
end PM2
section PM3
variable {K : Nat → Nat} {M pc : Nat} {f : pv_F} {st : List Value} {h : pv_H} {Q : Option Value → pv_H → Prop}
def pv_kM (M idx : Nat) (y : MethodName) (cd : ByteArray) (n : Nat) (r : Option FieldType) : Bool := match pv_ml M idx with
  | some (y', none) => decide (y' = y) && pv_okM M y cd n r
  | _ => false
theorem pv_mn1 : Lib.Math.max.name ≠ pv_cpn ∧ Lib.Math.min.name ≠ pv_cpn ∧ Lib.MathLoose.abs_long.x ≠ pv_cpn ∧ Lib.Math.min.name ≠ Lib.Math.max.name ∧ Lib.MathLoose.abs_long.x ≠ Lib.Math.max.name ∧ Lib.MathLoose.abs_long.x ≠ Lib.Math.min.name := by decide +kernel
theorem pw_mmax {idx : Nat} {x y : Int} (hd : pv_dec M pc = some (.invokestatic idx, 3)) (hk : pv_kM M idx Lib.Math.max.name Lib.Math.max.code 2 (some .int) = true) (hr : Nat.ble (st.map fun v => v.category).sum 8 = true) (hx : pv_r x) (hy : pv_r y) (kk : ∀ z, z = x ∨ z = y → x ≤ z ∧ y ≤ z → pv_T K M (pc + 3) f (.int (pv_I z) :: st) h Q) : pv_T K M pc f (.int (pv_I y) :: .int (pv_I x) :: st) h Q := by
  have hsum := Nat.le_of_ble_eq_true hr
  unfold pv_kM at hk
  split at hk
  · rename_i y' hy'
    simp only [Bool.and_eq_true, decide_eq_true_eq] at hk
    obtain ⟨rfl, hok⟩ := hk
    have e : pv_sh K M pc (.invokestatic idx) (.int (pv_I y) :: .int (pv_I x) :: st) h = some (pc + 3, .int (if pv_I x < pv_I y then pv_I y else pv_I x) :: st, h) := by
      unfold pv_sh
      simp only [hy', pv_mn1.1, false_and, if_false, hok, and_self, if_true]
      rw [if_pos hsum]
    by_cases hc : x < y
    · rw [if_pos ((pv_I_lt hx hy).mpr hc)] at e
      exact pw_steph hd rfl rfl e (kk y (Or.inr rfl) (by omega))
    · rw [if_neg (fun q => hc ((pv_I_lt hx hy).mp q))] at e
      exact pw_steph hd rfl rfl e (kk x (Or.inl rfl) (by omega))
  · cases hk
theorem pw_mmin {idx : Nat} {x y : Int} (hd : pv_dec M pc = some (.invokestatic idx, 3)) (hk : pv_kM M idx Lib.Math.min.name Lib.Math.min.code 2 (some .int) = true) (hr : Nat.ble (st.map fun v => v.category).sum 8 = true) (hx : pv_r x) (hy : pv_r y) (kk : ∀ z, z = x ∨ z = y → z ≤ x ∧ z ≤ y → pv_T K M (pc + 3) f (.int (pv_I z) :: st) h Q) : pv_T K M pc f (.int (pv_I y) :: .int (pv_I x) :: st) h Q := by
  have hsum := Nat.le_of_ble_eq_true hr
  unfold pv_kM at hk
  split at hk
  · rename_i y' hy'
    simp only [Bool.and_eq_true, decide_eq_true_eq] at hk
    obtain ⟨rfl, hok⟩ := hk
    have e : pv_sh K M pc (.invokestatic idx) (.int (pv_I y) :: .int (pv_I x) :: st) h = some (pc + 3, .int (if pv_I y < pv_I x then pv_I y else pv_I x) :: st, h) := by
      unfold pv_sh
      simp only [hy', pv_mn1.2.1, pv_mn1.2.2.2.1, false_and, if_false, hok, and_self, if_true]
      rw [if_pos hsum]
    by_cases hc : y < x
    · rw [if_pos ((pv_I_lt hy hx).mpr hc)] at e
      exact pw_steph hd rfl rfl e (kk y (Or.inr rfl) (by omega))
    · rw [if_neg (fun q => hc ((pv_I_lt hy hx).mp q))] at e
      exact pw_steph hd rfl rfl e (kk x (Or.inl rfl) (by omega))
  · cases hk
theorem pw_mabs {idx : Nat} {u : Int64} (hd : pv_dec M pc = some (.invokestatic idx, 3)) (hk : pv_kM M idx Lib.MathLoose.abs_long.x Lib.MathLoose.abs_long.code 2 (some .long) = true) (hr : Nat.ble (st.map fun v => v.category).sum 8 = true) (kk : ∀ z, pv_q z → (if 0 < u then u else -u) = pv_J z → pv_T K M (pc + 3) f (.long (pv_J z) :: st) h Q) : pv_T K M pc f (.long u :: st) h Q := by
  have hsum := Nat.le_of_ble_eq_true hr
  unfold pv_kM at hk
  split at hk
  · rename_i y' hy'
    simp only [Bool.and_eq_true, decide_eq_true_eq] at hk
    obtain ⟨rfl, hok⟩ := hk
    refine pw_steph hd rfl rfl ?_ (pw_anyl kk)
    unfold pv_sh
    simp only [hy', pv_mn1.2.2.1, pv_mn1.2.2.2.2.1, pv_mn1.2.2.2.2.2, false_and, if_false, hok, and_self, if_true]
    rw [if_pos hsum]
  · cases hk
end PM3
end
section
theorem b67 : pv_bc 67 = prog_14_method_49_code := by decide +kernel
theorem m67 : pv_mL 67 = 1 := by decide +kernel
theorem t67 : pv_rt 67 = some .int := by decide +kernel
theorem d67_0 : pv_dec 67 0 = some (.iload_n 0, 1) := pv_dec_of b67 (by decide +kernel)
theorem d67_1 : pv_dec 67 1 = some (.iload_n 0, 1) := pv_dec_of b67 (by decide +kernel)
theorem d67_2 : pv_dec 67 2 = some (.iconst 1, 1) := pv_dec_of b67 (by decide +kernel)
theorem d67_3 : pv_dec 67 3 = some (.iushr, 1) := pv_dec_of b67 (by decide +kernel)
theorem d67_4 : pv_dec 67 4 = some (.ldc_w 265, 3) := pv_dec_of b67 (by decide +kernel)
theorem k67_4 : pv_kc 67 265 = some (pv_I 1431655765) := by decide +kernel
theorem d67_7 : pv_dec 67 7 = some (.iand, 1) := pv_dec_of b67 (by decide +kernel)
theorem d67_8 : pv_dec 67 8 = some (.isub, 1) := pv_dec_of b67 (by decide +kernel)
theorem d67_9 : pv_dec 67 9 = some (.istore_n 0, 1) := pv_dec_of b67 (by decide +kernel)
theorem d67_10 : pv_dec 67 10 = some (.iload_n 0, 1) := pv_dec_of b67 (by decide +kernel)
theorem d67_11 : pv_dec 67 11 = some (.ldc_w 266, 3) := pv_dec_of b67 (by decide +kernel)
theorem k67_11 : pv_kc 67 266 = some (pv_I 858993459) := by decide +kernel
theorem d67_14 : pv_dec 67 14 = some (.iand, 1) := pv_dec_of b67 (by decide +kernel)
theorem d67_15 : pv_dec 67 15 = some (.iload_n 0, 1) := pv_dec_of b67 (by decide +kernel)
theorem d67_16 : pv_dec 67 16 = some (.iconst 2, 1) := pv_dec_of b67 (by decide +kernel)
theorem d67_17 : pv_dec 67 17 = some (.iushr, 1) := pv_dec_of b67 (by decide +kernel)
theorem d67_18 : pv_dec 67 18 = some (.ldc_w 266, 3) := pv_dec_of b67 (by decide +kernel)
theorem k67_18 : pv_kc 67 266 = some (pv_I 858993459) := by decide +kernel
theorem d67_21 : pv_dec 67 21 = some (.iand, 1) := pv_dec_of b67 (by decide +kernel)
theorem d67_22 : pv_dec 67 22 = some (.iadd, 1) := pv_dec_of b67 (by decide +kernel)
theorem d67_23 : pv_dec 67 23 = some (.istore_n 0, 1) := pv_dec_of b67 (by decide +kernel)
theorem d67_24 : pv_dec 67 24 = some (.iload_n 0, 1) := pv_dec_of b67 (by decide +kernel)
theorem d67_25 : pv_dec 67 25 = some (.iload_n 0, 1) := pv_dec_of b67 (by decide +kernel)
theorem d67_26 : pv_dec 67 26 = some (.iconst 4, 1) := pv_dec_of b67 (by decide +kernel)
theorem d67_27 : pv_dec 67 27 = some (.iushr, 1) := pv_dec_of b67 (by decide +kernel)
theorem d67_28 : pv_dec 67 28 = some (.iadd, 1) := pv_dec_of b67 (by decide +kernel)
theorem d67_29 : pv_dec 67 29 = some (.ldc_w 267, 3) := pv_dec_of b67 (by decide +kernel)
theorem k67_29 : pv_kc 67 267 = some (pv_I 252645135) := by decide +kernel
theorem d67_32 : pv_dec 67 32 = some (.iand, 1) := pv_dec_of b67 (by decide +kernel)
theorem d67_33 : pv_dec 67 33 = some (.istore_n 0, 1) := pv_dec_of b67 (by decide +kernel)
theorem d67_34 : pv_dec 67 34 = some (.iload_n 0, 1) := pv_dec_of b67 (by decide +kernel)
theorem d67_35 : pv_dec 67 35 = some (.iload_n 0, 1) := pv_dec_of b67 (by decide +kernel)
theorem d67_36 : pv_dec 67 36 = some (.bipush 8, 2) := pv_dec_of b67 (by decide +kernel)
theorem d67_38 : pv_dec 67 38 = some (.iushr, 1) := pv_dec_of b67 (by decide +kernel)
theorem d67_39 : pv_dec 67 39 = some (.iadd, 1) := pv_dec_of b67 (by decide +kernel)
theorem d67_40 : pv_dec 67 40 = some (.istore_n 0, 1) := pv_dec_of b67 (by decide +kernel)
theorem d67_41 : pv_dec 67 41 = some (.iload_n 0, 1) := pv_dec_of b67 (by decide +kernel)
theorem d67_42 : pv_dec 67 42 = some (.iload_n 0, 1) := pv_dec_of b67 (by decide +kernel)
theorem d67_43 : pv_dec 67 43 = some (.bipush 16, 2) := pv_dec_of b67 (by decide +kernel)
theorem d67_45 : pv_dec 67 45 = some (.iushr, 1) := pv_dec_of b67 (by decide +kernel)
theorem d67_46 : pv_dec 67 46 = some (.iadd, 1) := pv_dec_of b67 (by decide +kernel)
theorem d67_47 : pv_dec 67 47 = some (.istore_n 0, 1) := pv_dec_of b67 (by decide +kernel)
theorem d67_48 : pv_dec 67 48 = some (.iload_n 0, 1) := pv_dec_of b67 (by decide +kernel)
theorem d67_49 : pv_dec 67 49 = some (.bipush 63, 2) := pv_dec_of b67 (by decide +kernel)
theorem d67_51 : pv_dec 67 51 = some (.iand, 1) := pv_dec_of b67 (by decide +kernel)
theorem d67_52 : pv_dec 67 52 = some (.ireturn, 1) := pv_dec_of b67 (by decide +kernel)
end
section
abbrev Q67 (τ : Nat → Option Nat) (ρ : Nat → Nat → Nat) (h : pv_H) (x0 : Int) : Option Value → pv_H → Prop := fun r h' => h = h' ∧ ∃ z : Int, r = some (.int (pv_I z)) ∧ (-2147483648) ≤ z ∧ z ≤ 2147483647
set_option maxHeartbeats 4000000 in
set_option maxRecDepth 20000 in
/-- java/lang/Integer.bitCount(I)I -/
theorem c67 {τ : Nat → Option Nat} {ρ : Nat → Nat → Nat} {K : Nat → Nat} {h : pv_H} {x0 : Int} (hX0 : (-2147483648) ≤ x0 ∧ x0 ≤ 2147483647) : pv_C K 67 [.int (pv_I x0)] h (Q67 τ ρ h x0) := by
  refine pw_entry 0 ?_
  show pv_T K 67 0 (pv_fl [some (.int (pv_I x0))]) [] h (Q67 τ ρ h x0)
  refine pw_iload_n d67_0 rfl ?_
  refine pw_iload_n d67_1 rfl ?_
  refine pw_iconst d67_2 ?_
  refine pw_iushr d67_3 (fun z29 hz29 ez29 => ?_)
  refine pw_ldcw (v := pv_I 1431655765) d67_4 k67_4 ?_
  refine pw_iand d67_7 (fun z30 hz30 ez30 => ?_)
  refine pw_isub d67_8 ?_
  refine pw_any (fun z31 hz31 ez31 => ?_)
  refine pw_istore_n d67_9 m67 rfl rfl ?_
  refine pw_iload_n d67_10 rfl ?_
  refine pw_ldcw (v := pv_I 858993459) d67_11 k67_11 ?_
  refine pw_iand d67_14 (fun z32 hz32 ez32 => ?_)
  refine pw_iload_n d67_15 rfl ?_
  refine pw_iconst d67_16 ?_
  refine pw_iushr d67_17 (fun z33 hz33 ez33 => ?_)
  refine pw_ldcw (v := pv_I 858993459) d67_18 k67_18 ?_
  refine pw_iand d67_21 (fun z34 hz34 ez34 => ?_)
  refine pw_iadd d67_22 ?_
  refine pw_any (fun z35 hz35 ez35 => ?_)
  refine pw_istore_n d67_23 m67 rfl rfl ?_
  refine pw_iload_n d67_24 rfl ?_
  refine pw_iload_n d67_25 rfl ?_
  refine pw_iconst d67_26 ?_
  refine pw_iushr d67_27 (fun z36 hz36 ez36 => ?_)
  refine pw_iadd d67_28 ?_
  refine pw_ldcw (v := pv_I 252645135) d67_29 k67_29 ?_
  refine pw_iand d67_32 (fun z37 hz37 ez37 => ?_)
  refine pw_istore_n d67_33 m67 rfl rfl ?_
  refine pw_iload_n d67_34 rfl ?_
  refine pw_iload_n d67_35 rfl ?_
  refine pw_bipush d67_36 (by decide) ?_
  refine pw_iushr d67_38 (fun z38 hz38 ez38 => ?_)
  refine pw_iadd d67_39 ?_
  refine pw_any (fun z39 hz39 ez39 => ?_)
  refine pw_istore_n d67_40 m67 rfl rfl ?_
  refine pw_iload_n d67_41 rfl ?_
  refine pw_iload_n d67_42 rfl ?_
  refine pw_bipush d67_43 (by decide) ?_
  refine pw_iushr d67_45 (fun z40 hz40 ez40 => ?_)
  refine pw_iadd d67_46 ?_
  refine pw_any (fun z41 hz41 ez41 => ?_)
  refine pw_istore_n d67_47 m67 rfl rfl ?_
  refine pw_iload_n d67_48 rfl ?_
  refine pw_bipush d67_49 (by decide) ?_
  refine pw_iand d67_51 (fun z42 hz42 ez42 => ?_)
  exact pw_ireturn d67_52 t67 ⟨rfl, z42, rfl, (by omega), (by omega)⟩
end
section
theorem b48 : pv_bc 48 = prog_7_method_7_code := by decide +kernel
theorem m48 : pv_mL 48 = 2 := by decide +kernel
theorem t48 : pv_rt 48 = some .boolean := by decide +kernel
theorem d48_0 : pv_dec 48 0 = some (.iload_n 1, 1) := pv_dec_of b48 (by decide +kernel)
theorem d48_1 : pv_dec 48 1 = some (.ifCond .lt 15, 3) := pv_dec_of b48 (by decide +kernel)
theorem d48_4 : pv_dec 48 4 = some (.iload_n 1, 1) := pv_dec_of b48 (by decide +kernel)
theorem d48_5 : pv_dec 48 5 = some (.aload_n 0, 1) := pv_dec_of b48 (by decide +kernel)
theorem d48_6 : pv_dec 48 6 = some (.getfield 41, 3) := pv_dec_of b48 (by decide +kernel)
theorem d48_9 : pv_dec 48 9 = some (.if_icmp .ge 7, 3) := pv_dec_of b48 (by decide +kernel)
theorem d48_12 : pv_dec 48 12 = some (.iconst 1, 1) := pv_dec_of b48 (by decide +kernel)
theorem d48_13 : pv_dec 48 13 = some (.goto 4, 3) := pv_dec_of b48 (by decide +kernel)
theorem d48_16 : pv_dec 48 16 = some (.iconst 0, 1) := pv_dec_of b48 (by decide +kernel)
theorem d48_17 : pv_dec 48 17 = some (.ireturn, 1) := pv_dec_of b48 (by decide +kernel)
theorem g48_41 : pv_gf 48 41 = some (2, 0) := by decide +kernel
theorem b55 : pv_bc 55 = prog_7_method_8_code := by decide +kernel
theorem m55 : pv_mL 55 = 2 := by decide +kernel
theorem t55 : pv_rt 55 = some .boolean := by decide +kernel
theorem d55_0 : pv_dec 55 0 = some (.iload_n 1, 1) := pv_dec_of b55 (by decide +kernel)
theorem d55_1 : pv_dec 55 1 = some (.ifCond .lt 15, 3) := pv_dec_of b55 (by decide +kernel)
theorem d55_4 : pv_dec 55 4 = some (.iload_n 1, 1) := pv_dec_of b55 (by decide +kernel)
theorem d55_5 : pv_dec 55 5 = some (.aload_n 0, 1) := pv_dec_of b55 (by decide +kernel)
theorem d55_6 : pv_dec 55 6 = some (.getfield 45, 3) := pv_dec_of b55 (by decide +kernel)
theorem d55_9 : pv_dec 55 9 = some (.if_icmp .ge 7, 3) := pv_dec_of b55 (by decide +kernel)
theorem d55_12 : pv_dec 55 12 = some (.iconst 1, 1) := pv_dec_of b55 (by decide +kernel)
theorem d55_13 : pv_dec 55 13 = some (.goto 4, 3) := pv_dec_of b55 (by decide +kernel)
theorem d55_16 : pv_dec 55 16 = some (.iconst 0, 1) := pv_dec_of b55 (by decide +kernel)
theorem d55_17 : pv_dec 55 17 = some (.ireturn, 1) := pv_dec_of b55 (by decide +kernel)
theorem g55_45 : pv_gf 55 45 = some (2, 1) := by decide +kernel
theorem b64 : pv_bc 64 = prog_7_method_6_code := by decide +kernel
theorem m64 : pv_mL 64 = 1 := by decide +kernel
theorem t64 : pv_rt 64 = some .boolean := by decide +kernel
theorem d64_0 : pv_dec 64 0 = some (.aload_n 0, 1) := pv_dec_of b64 (by decide +kernel)
theorem d64_1 : pv_dec 64 1 = some (.getfield 41, 3) := pv_dec_of b64 (by decide +kernel)
theorem d64_4 : pv_dec 64 4 = some (.ifCond .le 7, 3) := pv_dec_of b64 (by decide +kernel)
theorem d64_7 : pv_dec 64 7 = some (.iconst 1, 1) := pv_dec_of b64 (by decide +kernel)
theorem d64_8 : pv_dec 64 8 = some (.goto 4, 3) := pv_dec_of b64 (by decide +kernel)
theorem d64_11 : pv_dec 64 11 = some (.iconst 0, 1) := pv_dec_of b64 (by decide +kernel)
theorem d64_12 : pv_dec 64 12 = some (.ireturn, 1) := pv_dec_of b64 (by decide +kernel)
theorem g64_41 : pv_gf 64 41 = some (2, 0) := by decide +kernel
theorem b47 : pv_bc 47 = prog_7_method_9_code := by decide +kernel
theorem m47 : pv_mL 47 = 3 := by decide +kernel
theorem t47 : pv_rt 47 = some .boolean := by decide +kernel
theorem d47_0 : pv_dec 47 0 = some (.aload_n 0, 1) := pv_dec_of b47 (by decide +kernel)
theorem d47_1 : pv_dec 47 1 = some (.iload_n 1, 1) := pv_dec_of b47 (by decide +kernel)
theorem d47_2 : pv_dec 47 2 = some (.invokevirtual 78, 3) := pv_dec_of b47 (by decide +kernel)
theorem d47_5 : pv_dec 47 5 = some (.ifCond .eq 34, 3) := pv_dec_of b47 (by decide +kernel)
theorem d47_8 : pv_dec 47 8 = some (.aload_n 0, 1) := pv_dec_of b47 (by decide +kernel)
theorem d47_9 : pv_dec 47 9 = some (.iload_n 2, 1) := pv_dec_of b47 (by decide +kernel)
theorem d47_10 : pv_dec 47 10 = some (.invokevirtual 78, 3) := pv_dec_of b47 (by decide +kernel)
theorem d47_13 : pv_dec 47 13 = some (.ifCond .eq 26, 3) := pv_dec_of b47 (by decide +kernel)
theorem d47_16 : pv_dec 47 16 = some (.iload_n 1, 1) := pv_dec_of b47 (by decide +kernel)
theorem d47_17 : pv_dec 47 17 = some (.iload_n 2, 1) := pv_dec_of b47 (by decide +kernel)
theorem d47_18 : pv_dec 47 18 = some (.if_icmp .eq 21, 3) := pv_dec_of b47 (by decide +kernel)
theorem d47_21 : pv_dec 47 21 = some (.aload_n 0, 1) := pv_dec_of b47 (by decide +kernel)
theorem d47_22 : pv_dec 47 22 = some (.getfield 33, 3) := pv_dec_of b47 (by decide +kernel)
theorem d47_25 : pv_dec 47 25 = some (.bipush 10, 2) := pv_dec_of b47 (by decide +kernel)
theorem d47_27 : pv_dec 47 27 = some (.iload_n 1, 1) := pv_dec_of b47 (by decide +kernel)
theorem d47_28 : pv_dec 47 28 = some (.imul, 1) := pv_dec_of b47 (by decide +kernel)
theorem d47_29 : pv_dec 47 29 = some (.iload_n 2, 1) := pv_dec_of b47 (by decide +kernel)
theorem d47_30 : pv_dec 47 30 = some (.iadd, 1) := pv_dec_of b47 (by decide +kernel)
theorem d47_31 : pv_dec 47 31 = some (.iaload, 1) := pv_dec_of b47 (by decide +kernel)
theorem d47_32 : pv_dec 47 32 = some (.ifCond .le 7, 3) := pv_dec_of b47 (by decide +kernel)
theorem d47_35 : pv_dec 47 35 = some (.iconst 1, 1) := pv_dec_of b47 (by decide +kernel)
theorem d47_36 : pv_dec 47 36 = some (.goto 4, 3) := pv_dec_of b47 (by decide +kernel)
theorem d47_39 : pv_dec 47 39 = some (.iconst 0, 1) := pv_dec_of b47 (by decide +kernel)
theorem d47_40 : pv_dec 47 40 = some (.ireturn, 1) := pv_dec_of b47 (by decide +kernel)
theorem g47_33 : pv_gf 47 33 = some (2, 12) := by decide +kernel
theorem k47_78 : pv_kV 47 78 48 2 1 2 = true := by decide +kernel
theorem b80 : pv_bc 80 = prog_7_method_10_code := by decide +kernel
theorem m80 : pv_mL 80 = 3 := by decide +kernel
theorem t80 : pv_rt 80 = some .boolean := by decide +kernel
theorem d80_0 : pv_dec 80 0 = some (.aload_n 0, 1) := pv_dec_of b80 (by decide +kernel)
theorem d80_1 : pv_dec 80 1 = some (.iload_n 1, 1) := pv_dec_of b80 (by decide +kernel)
theorem d80_2 : pv_dec 80 2 = some (.invokevirtual 78, 3) := pv_dec_of b80 (by decide +kernel)
theorem d80_5 : pv_dec 80 5 = some (.ifCond .eq 30, 3) := pv_dec_of b80 (by decide +kernel)
theorem d80_8 : pv_dec 80 8 = some (.aload_n 0, 1) := pv_dec_of b80 (by decide +kernel)
theorem d80_9 : pv_dec 80 9 = some (.iload_n 2, 1) := pv_dec_of b80 (by decide +kernel)
theorem d80_10 : pv_dec 80 10 = some (.invokevirtual 78, 3) := pv_dec_of b80 (by decide +kernel)
theorem d80_13 : pv_dec 80 13 = some (.ifCond .eq 22, 3) := pv_dec_of b80 (by decide +kernel)
theorem d80_16 : pv_dec 80 16 = some (.aload_n 0, 1) := pv_dec_of b80 (by decide +kernel)
theorem d80_17 : pv_dec 80 17 = some (.getfield 33, 3) := pv_dec_of b80 (by decide +kernel)
theorem d80_20 : pv_dec 80 20 = some (.bipush 10, 2) := pv_dec_of b80 (by decide +kernel)
theorem d80_22 : pv_dec 80 22 = some (.iload_n 1, 1) := pv_dec_of b80 (by decide +kernel)
theorem d80_23 : pv_dec 80 23 = some (.imul, 1) := pv_dec_of b80 (by decide +kernel)
theorem d80_24 : pv_dec 80 24 = some (.iload_n 2, 1) := pv_dec_of b80 (by decide +kernel)
theorem d80_25 : pv_dec 80 25 = some (.iadd, 1) := pv_dec_of b80 (by decide +kernel)
theorem d80_26 : pv_dec 80 26 = some (.iaload, 1) := pv_dec_of b80 (by decide +kernel)
theorem d80_27 : pv_dec 80 27 = some (.iconst 1, 1) := pv_dec_of b80 (by decide +kernel)
theorem d80_28 : pv_dec 80 28 = some (.if_icmp .ne 7, 3) := pv_dec_of b80 (by decide +kernel)
theorem d80_31 : pv_dec 80 31 = some (.iconst 1, 1) := pv_dec_of b80 (by decide +kernel)
theorem d80_32 : pv_dec 80 32 = some (.goto 4, 3) := pv_dec_of b80 (by decide +kernel)
theorem d80_35 : pv_dec 80 35 = some (.iconst 0, 1) := pv_dec_of b80 (by decide +kernel)
theorem d80_36 : pv_dec 80 36 = some (.ireturn, 1) := pv_dec_of b80 (by decide +kernel)
theorem g80_33 : pv_gf 80 33 = some (2, 12) := by decide +kernel
theorem k80_78 : pv_kV 80 78 48 2 1 2 = true := by decide +kernel
theorem b112 : pv_bc 112 = prog_7_method_11_code := by decide +kernel
theorem m112 : pv_mL 112 = 2 := by decide +kernel
theorem t112 : pv_rt 112 = some .boolean := by decide +kernel
theorem d112_0 : pv_dec 112 0 = some (.aload_n 0, 1) := pv_dec_of b112 (by decide +kernel)
theorem d112_1 : pv_dec 112 1 = some (.iload_n 1, 1) := pv_dec_of b112 (by decide +kernel)
theorem d112_2 : pv_dec 112 2 = some (.invokevirtual 78, 3) := pv_dec_of b112 (by decide +kernel)
theorem d112_5 : pv_dec 112 5 = some (.ifCond .eq 17, 3) := pv_dec_of b112 (by decide +kernel)
theorem d112_8 : pv_dec 112 8 = some (.aload_n 0, 1) := pv_dec_of b112 (by decide +kernel)
theorem d112_9 : pv_dec 112 9 = some (.getfield 21, 3) := pv_dec_of b112 (by decide +kernel)
theorem d112_12 : pv_dec 112 12 = some (.iload_n 1, 1) := pv_dec_of b112 (by decide +kernel)
theorem d112_13 : pv_dec 112 13 = some (.iaload, 1) := pv_dec_of b112 (by decide +kernel)
theorem d112_14 : pv_dec 112 14 = some (.iconst (-1), 1) := pv_dec_of b112 (by decide +kernel)
theorem d112_15 : pv_dec 112 15 = some (.if_icmp .eq 7, 3) := pv_dec_of b112 (by decide +kernel)
theorem d112_18 : pv_dec 112 18 = some (.iconst 1, 1) := pv_dec_of b112 (by decide +kernel)
theorem d112_19 : pv_dec 112 19 = some (.goto 4, 3) := pv_dec_of b112 (by decide +kernel)
theorem d112_22 : pv_dec 112 22 = some (.iconst 0, 1) := pv_dec_of b112 (by decide +kernel)
theorem d112_23 : pv_dec 112 23 = some (.ireturn, 1) := pv_dec_of b112 (by decide +kernel)
theorem g112_21 : pv_gf 112 21 = some (2, 8) := by decide +kernel
theorem k112_78 : pv_kV 112 78 48 2 1 2 = true := by decide +kernel
theorem b40 : pv_bc 40 = prog_7_method_12_code := by decide +kernel
theorem m40 : pv_mL 40 = 2 := by decide +kernel
theorem t40 : pv_rt 40 = some .int := by decide +kernel
theorem d40_0 : pv_dec 40 0 = some (.iconst 1, 1) := pv_dec_of b40 (by decide +kernel)
theorem d40_1 : pv_dec 40 1 = some (.aload_n 0, 1) := pv_dec_of b40 (by decide +kernel)
theorem d40_2 : pv_dec 40 2 = some (.getfield 9, 3) := pv_dec_of b40 (by decide +kernel)
theorem d40_5 : pv_dec 40 5 = some (.iconst 3, 1) := pv_dec_of b40 (by decide +kernel)
theorem d40_6 : pv_dec 40 6 = some (.iload_n 1, 1) := pv_dec_of b40 (by decide +kernel)
theorem d40_7 : pv_dec 40 7 = some (.imul, 1) := pv_dec_of b40 (by decide +kernel)
theorem d40_8 : pv_dec 40 8 = some (.iaload, 1) := pv_dec_of b40 (by decide +kernel)
theorem d40_9 : pv_dec 40 9 = some (.ishl, 1) := pv_dec_of b40 (by decide +kernel)
theorem d40_10 : pv_dec 40 10 = some (.iconst 1, 1) := pv_dec_of b40 (by decide +kernel)
theorem d40_11 : pv_dec 40 11 = some (.aload_n 0, 1) := pv_dec_of b40 (by decide +kernel)
theorem d40_12 : pv_dec 40 12 = some (.getfield 9, 3) := pv_dec_of b40 (by decide +kernel)
theorem d40_15 : pv_dec 40 15 = some (.iconst 3, 1) := pv_dec_of b40 (by decide +kernel)
theorem d40_16 : pv_dec 40 16 = some (.iload_n 1, 1) := pv_dec_of b40 (by decide +kernel)
theorem d40_17 : pv_dec 40 17 = some (.imul, 1) := pv_dec_of b40 (by decide +kernel)
theorem d40_18 : pv_dec 40 18 = some (.iconst 1, 1) := pv_dec_of b40 (by decide +kernel)
theorem d40_19 : pv_dec 40 19 = some (.iadd, 1) := pv_dec_of b40 (by decide +kernel)
theorem d40_20 : pv_dec 40 20 = some (.iaload, 1) := pv_dec_of b40 (by decide +kernel)
theorem d40_21 : pv_dec 40 21 = some (.ishl, 1) := pv_dec_of b40 (by decide +kernel)
theorem d40_22 : pv_dec 40 22 = some (.ior, 1) := pv_dec_of b40 (by decide +kernel)
theorem d40_23 : pv_dec 40 23 = some (.iconst 1, 1) := pv_dec_of b40 (by decide +kernel)
theorem d40_24 : pv_dec 40 24 = some (.aload_n 0, 1) := pv_dec_of b40 (by decide +kernel)
theorem d40_25 : pv_dec 40 25 = some (.getfield 9, 3) := pv_dec_of b40 (by decide +kernel)
theorem d40_28 : pv_dec 40 28 = some (.iconst 3, 1) := pv_dec_of b40 (by decide +kernel)
theorem d40_29 : pv_dec 40 29 = some (.iload_n 1, 1) := pv_dec_of b40 (by decide +kernel)
theorem d40_30 : pv_dec 40 30 = some (.imul, 1) := pv_dec_of b40 (by decide +kernel)
theorem d40_31 : pv_dec 40 31 = some (.iconst 2, 1) := pv_dec_of b40 (by decide +kernel)
theorem d40_32 : pv_dec 40 32 = some (.iadd, 1) := pv_dec_of b40 (by decide +kernel)
theorem d40_33 : pv_dec 40 33 = some (.iaload, 1) := pv_dec_of b40 (by decide +kernel)
theorem d40_34 : pv_dec 40 34 = some (.ishl, 1) := pv_dec_of b40 (by decide +kernel)
theorem d40_35 : pv_dec 40 35 = some (.ior, 1) := pv_dec_of b40 (by decide +kernel)
theorem d40_36 : pv_dec 40 36 = some (.ireturn, 1) := pv_dec_of b40 (by decide +kernel)
theorem g40_9 : pv_gf 40 9 = some (2, 5) := by decide +kernel
theorem b58 : pv_bc 58 = prog_7_method_13_code := by decide +kernel
theorem m58 : pv_mL 58 = 3 := by decide +kernel
theorem t58 : pv_rt 58 = some .boolean := by decide +kernel
theorem d58_0 : pv_dec 58 0 = some (.aload_n 0, 1) := pv_dec_of b58 (by decide +kernel)
theorem d58_1 : pv_dec 58 1 = some (.iload_n 1, 1) := pv_dec_of b58 (by decide +kernel)
theorem d58_2 : pv_dec 58 2 = some (.invokevirtual 82, 3) := pv_dec_of b58 (by decide +kernel)
theorem d58_5 : pv_dec 58 5 = some (.iload_n 2, 1) := pv_dec_of b58 (by decide +kernel)
theorem d58_6 : pv_dec 58 6 = some (.ishr, 1) := pv_dec_of b58 (by decide +kernel)
theorem d58_7 : pv_dec 58 7 = some (.iconst 1, 1) := pv_dec_of b58 (by decide +kernel)
theorem d58_8 : pv_dec 58 8 = some (.iand, 1) := pv_dec_of b58 (by decide +kernel)
theorem d58_9 : pv_dec 58 9 = some (.ifCond .eq 7, 3) := pv_dec_of b58 (by decide +kernel)
theorem d58_12 : pv_dec 58 12 = some (.iconst 1, 1) := pv_dec_of b58 (by decide +kernel)
theorem d58_13 : pv_dec 58 13 = some (.goto 4, 3) := pv_dec_of b58 (by decide +kernel)
theorem d58_16 : pv_dec 58 16 = some (.iconst 0, 1) := pv_dec_of b58 (by decide +kernel)
theorem d58_17 : pv_dec 58 17 = some (.ireturn, 1) := pv_dec_of b58 (by decide +kernel)
theorem k58_82 : pv_kV 58 82 40 2 1 2 = true := by decide +kernel
theorem b39 : pv_bc 39 = prog_7_method_14_code := by decide +kernel
theorem m39 : pv_mL 39 = 6 := by decide +kernel
theorem t39 : pv_rt 39 = some .boolean := by decide +kernel
theorem d39_0 : pv_dec 39 0 = some (.iconst 1, 1) := pv_dec_of b39 (by decide +kernel)
theorem d39_1 : pv_dec 39 1 = some (.iload_n 1, 1) := pv_dec_of b39 (by decide +kernel)
theorem d39_2 : pv_dec 39 2 = some (.ishl, 1) := pv_dec_of b39 (by decide +kernel)
theorem d39_3 : pv_dec 39 3 = some (.iconst 1, 1) := pv_dec_of b39 (by decide +kernel)
theorem d39_4 : pv_dec 39 4 = some (.iload_n 2, 1) := pv_dec_of b39 (by decide +kernel)
theorem d39_5 : pv_dec 39 5 = some (.ishl, 1) := pv_dec_of b39 (by decide +kernel)
theorem d39_6 : pv_dec 39 6 = some (.ior, 1) := pv_dec_of b39 (by decide +kernel)
theorem d39_7 : pv_dec 39 7 = some (.iconst 1, 1) := pv_dec_of b39 (by decide +kernel)
theorem d39_8 : pv_dec 39 8 = some (.iload_n 3, 1) := pv_dec_of b39 (by decide +kernel)
theorem d39_9 : pv_dec 39 9 = some (.ishl, 1) := pv_dec_of b39 (by decide +kernel)
theorem d39_10 : pv_dec 39 10 = some (.ior, 1) := pv_dec_of b39 (by decide +kernel)
theorem d39_11 : pv_dec 39 11 = some (.istore 4, 2) := pv_dec_of b39 (by decide +kernel)
theorem d39_13 : pv_dec 39 13 = some (.iconst 0, 1) := pv_dec_of b39 (by decide +kernel)
theorem d39_14 : pv_dec 39 14 = some (.istore 5, 2) := pv_dec_of b39 (by decide +kernel)
theorem d39_16 : pv_dec 39 16 = some (.iload 5, 2) := pv_dec_of b39 (by decide +kernel)
theorem d39_18 : pv_dec 39 18 = some (.aload_n 0, 1) := pv_dec_of b39 (by decide +kernel)
theorem d39_19 : pv_dec 39 19 = some (.getfield 45, 3) := pv_dec_of b39 (by decide +kernel)
theorem d39_22 : pv_dec 39 22 = some (.if_icmp .ge 22, 3) := pv_dec_of b39 (by decide +kernel)
theorem d39_25 : pv_dec 39 25 = some (.aload_n 0, 1) := pv_dec_of b39 (by decide +kernel)
theorem d39_26 : pv_dec 39 26 = some (.iload 5, 2) := pv_dec_of b39 (by decide +kernel)
theorem d39_28 : pv_dec 39 28 = some (.invokevirtual 82, 3) := pv_dec_of b39 (by decide +kernel)
theorem d39_31 : pv_dec 39 31 = some (.iload 4, 2) := pv_dec_of b39 (by decide +kernel)
theorem d39_33 : pv_dec 39 33 = some (.if_icmp .ne 5, 3) := pv_dec_of b39 (by decide +kernel)
theorem d39_36 : pv_dec 39 36 = some (.iconst 0, 1) := pv_dec_of b39 (by decide +kernel)
theorem d39_37 : pv_dec 39 37 = some (.ireturn, 1) := pv_dec_of b39 (by decide +kernel)
theorem d39_38 : pv_dec 39 38 = some (.iinc 5 1, 3) := pv_dec_of b39 (by decide +kernel)
theorem d39_41 : pv_dec 39 41 = some (.goto (-25), 3) := pv_dec_of b39 (by decide +kernel)
theorem d39_44 : pv_dec 39 44 = some (.aload_n 0, 1) := pv_dec_of b39 (by decide +kernel)
theorem d39_45 : pv_dec 39 45 = some (.getfield 33, 3) := pv_dec_of b39 (by decide +kernel)
theorem d39_48 : pv_dec 39 48 = some (.bipush 10, 2) := pv_dec_of b39 (by decide +kernel)
theorem d39_50 : pv_dec 39 50 = some (.iload_n 1, 1) := pv_dec_of b39 (by decide +kernel)
theorem d39_51 : pv_dec 39 51 = some (.imul, 1) := pv_dec_of b39 (by decide +kernel)
theorem d39_52 : pv_dec 39 52 = some (.iload_n 2, 1) := pv_dec_of b39 (by decide +kernel)
theorem d39_53 : pv_dec 39 53 = some (.iadd, 1) := pv_dec_of b39 (by decide +kernel)
theorem d39_54 : pv_dec 39 54 = some (.iaload, 1) := pv_dec_of b39 (by decide +kernel)
theorem d39_55 : pv_dec 39 55 = some (.iconst 2, 1) := pv_dec_of b39 (by decide +kernel)
theorem d39_56 : pv_dec 39 56 = some (.if_icmp .ge 37, 3) := pv_dec_of b39 (by decide +kernel)
theorem d39_59 : pv_dec 39 59 = some (.aload_n 0, 1) := pv_dec_of b39 (by decide +kernel)
theorem d39_60 : pv_dec 39 60 = some (.getfield 33, 3) := pv_dec_of b39 (by decide +kernel)
theorem d39_63 : pv_dec 39 63 = some (.bipush 10, 2) := pv_dec_of b39 (by decide +kernel)
theorem d39_65 : pv_dec 39 65 = some (.iload_n 2, 1) := pv_dec_of b39 (by decide +kernel)
theorem d39_66 : pv_dec 39 66 = some (.imul, 1) := pv_dec_of b39 (by decide +kernel)
theorem d39_67 : pv_dec 39 67 = some (.iload_n 3, 1) := pv_dec_of b39 (by decide +kernel)
theorem d39_68 : pv_dec 39 68 = some (.iadd, 1) := pv_dec_of b39 (by decide +kernel)
theorem d39_69 : pv_dec 39 69 = some (.iaload, 1) := pv_dec_of b39 (by decide +kernel)
theorem d39_70 : pv_dec 39 70 = some (.iconst 2, 1) := pv_dec_of b39 (by decide +kernel)
theorem d39_71 : pv_dec 39 71 = some (.if_icmp .ge 22, 3) := pv_dec_of b39 (by decide +kernel)
theorem d39_74 : pv_dec 39 74 = some (.aload_n 0, 1) := pv_dec_of b39 (by decide +kernel)
theorem d39_75 : pv_dec 39 75 = some (.getfield 33, 3) := pv_dec_of b39 (by decide +kernel)
theorem d39_78 : pv_dec 39 78 = some (.bipush 10, 2) := pv_dec_of b39 (by decide +kernel)
theorem d39_80 : pv_dec 39 80 = some (.iload_n 1, 1) := pv_dec_of b39 (by decide +kernel)
theorem d39_81 : pv_dec 39 81 = some (.imul, 1) := pv_dec_of b39 (by decide +kernel)
theorem d39_82 : pv_dec 39 82 = some (.iload_n 3, 1) := pv_dec_of b39 (by decide +kernel)
theorem d39_83 : pv_dec 39 83 = some (.iadd, 1) := pv_dec_of b39 (by decide +kernel)
theorem d39_84 : pv_dec 39 84 = some (.iaload, 1) := pv_dec_of b39 (by decide +kernel)
theorem d39_85 : pv_dec 39 85 = some (.iconst 2, 1) := pv_dec_of b39 (by decide +kernel)
theorem d39_86 : pv_dec 39 86 = some (.if_icmp .ge 7, 3) := pv_dec_of b39 (by decide +kernel)
theorem d39_89 : pv_dec 39 89 = some (.iconst 1, 1) := pv_dec_of b39 (by decide +kernel)
theorem d39_90 : pv_dec 39 90 = some (.goto 4, 3) := pv_dec_of b39 (by decide +kernel)
theorem d39_93 : pv_dec 39 93 = some (.iconst 0, 1) := pv_dec_of b39 (by decide +kernel)
theorem d39_94 : pv_dec 39 94 = some (.ireturn, 1) := pv_dec_of b39 (by decide +kernel)
theorem g39_33 : pv_gf 39 33 = some (2, 12) := by decide +kernel
theorem g39_45 : pv_gf 39 45 = some (2, 1) := by decide +kernel
theorem k39_82 : pv_kV 39 82 40 2 1 2 = true := by decide +kernel
theorem b43 : pv_bc 43 = prog_7_method_17_code := by decide +kernel
theorem m43 : pv_mL 43 = 6 := by decide +kernel
theorem t43 : pv_rt 43 = none := by decide +kernel
theorem d43_0 : pv_dec 43 0 = some (.iconst 0, 1) := pv_dec_of b43 (by decide +kernel)
theorem d43_1 : pv_dec 43 1 = some (.istore_n 3, 1) := pv_dec_of b43 (by decide +kernel)
theorem d43_2 : pv_dec 43 2 = some (.iload_n 3, 1) := pv_dec_of b43 (by decide +kernel)
theorem d43_3 : pv_dec 43 3 = some (.iconst 3, 1) := pv_dec_of b43 (by decide +kernel)
theorem d43_4 : pv_dec 43 4 = some (.if_icmp .ge 71, 3) := pv_dec_of b43 (by decide +kernel)
theorem d43_7 : pv_dec 43 7 = some (.aload_n 0, 1) := pv_dec_of b43 (by decide +kernel)
theorem d43_8 : pv_dec 43 8 = some (.getfield 9, 3) := pv_dec_of b43 (by decide +kernel)
theorem d43_11 : pv_dec 43 11 = some (.iconst 3, 1) := pv_dec_of b43 (by decide +kernel)
theorem d43_12 : pv_dec 43 12 = some (.iload_n 1, 1) := pv_dec_of b43 (by decide +kernel)
theorem d43_13 : pv_dec 43 13 = some (.imul, 1) := pv_dec_of b43 (by decide +kernel)
theorem d43_14 : pv_dec 43 14 = some (.iload_n 3, 1) := pv_dec_of b43 (by decide +kernel)
theorem d43_15 : pv_dec 43 15 = some (.iadd, 1) := pv_dec_of b43 (by decide +kernel)
theorem d43_16 : pv_dec 43 16 = some (.iaload, 1) := pv_dec_of b43 (by decide +kernel)
theorem d43_17 : pv_dec 43 17 = some (.istore 4, 2) := pv_dec_of b43 (by decide +kernel)
theorem d43_19 : pv_dec 43 19 = some (.aload_n 0, 1) := pv_dec_of b43 (by decide +kernel)
theorem d43_20 : pv_dec 43 20 = some (.getfield 9, 3) := pv_dec_of b43 (by decide +kernel)
theorem d43_23 : pv_dec 43 23 = some (.iconst 3, 1) := pv_dec_of b43 (by decide +kernel)
theorem d43_24 : pv_dec 43 24 = some (.iload_n 1, 1) := pv_dec_of b43 (by decide +kernel)
theorem d43_25 : pv_dec 43 25 = some (.imul, 1) := pv_dec_of b43 (by decide +kernel)
theorem d43_26 : pv_dec 43 26 = some (.iload_n 3, 1) := pv_dec_of b43 (by decide +kernel)
theorem d43_27 : pv_dec 43 27 = some (.iconst 1, 1) := pv_dec_of b43 (by decide +kernel)
theorem d43_28 : pv_dec 43 28 = some (.iadd, 1) := pv_dec_of b43 (by decide +kernel)
theorem d43_29 : pv_dec 43 29 = some (.iconst 3, 1) := pv_dec_of b43 (by decide +kernel)
theorem d43_30 : pv_dec 43 30 = some (.irem, 1) := pv_dec_of b43 (by decide +kernel)
theorem d43_31 : pv_dec 43 31 = some (.iadd, 1) := pv_dec_of b43 (by decide +kernel)
theorem d43_32 : pv_dec 43 32 = some (.iaload, 1) := pv_dec_of b43 (by decide +kernel)
theorem d43_33 : pv_dec 43 33 = some (.istore 5, 2) := pv_dec_of b43 (by decide +kernel)
theorem d43_35 : pv_dec 43 35 = some (.aload_n 0, 1) := pv_dec_of b43 (by decide +kernel)
theorem d43_36 : pv_dec 43 36 = some (.getfield 33, 3) := pv_dec_of b43 (by decide +kernel)
theorem d43_39 : pv_dec 43 39 = some (.bipush 10, 2) := pv_dec_of b43 (by decide +kernel)
theorem d43_41 : pv_dec 43 41 = some (.iload 4, 2) := pv_dec_of b43 (by decide +kernel)
theorem d43_43 : pv_dec 43 43 = some (.imul, 1) := pv_dec_of b43 (by decide +kernel)
theorem d43_44 : pv_dec 43 44 = some (.iload 5, 2) := pv_dec_of b43 (by decide +kernel)
theorem d43_46 : pv_dec 43 46 = some (.iadd, 1) := pv_dec_of b43 (by decide +kernel)
theorem d43_47 : pv_dec 43 47 = some (.dup2, 1) := pv_dec_of b43 (by decide +kernel)
theorem d43_48 : pv_dec 43 48 = some (.iaload, 1) := pv_dec_of b43 (by decide +kernel)
theorem d43_49 : pv_dec 43 49 = some (.iload_n 2, 1) := pv_dec_of b43 (by decide +kernel)
theorem d43_50 : pv_dec 43 50 = some (.iadd, 1) := pv_dec_of b43 (by decide +kernel)
theorem d43_51 : pv_dec 43 51 = some (.iastore, 1) := pv_dec_of b43 (by decide +kernel)
theorem d43_52 : pv_dec 43 52 = some (.aload_n 0, 1) := pv_dec_of b43 (by decide +kernel)
theorem d43_53 : pv_dec 43 53 = some (.getfield 33, 3) := pv_dec_of b43 (by decide +kernel)
theorem d43_56 : pv_dec 43 56 = some (.bipush 10, 2) := pv_dec_of b43 (by decide +kernel)
theorem d43_58 : pv_dec 43 58 = some (.iload 5, 2) := pv_dec_of b43 (by decide +kernel)
theorem d43_60 : pv_dec 43 60 = some (.imul, 1) := pv_dec_of b43 (by decide +kernel)
theorem d43_61 : pv_dec 43 61 = some (.iload 4, 2) := pv_dec_of b43 (by decide +kernel)
theorem d43_63 : pv_dec 43 63 = some (.iadd, 1) := pv_dec_of b43 (by decide +kernel)
theorem d43_64 : pv_dec 43 64 = some (.dup2, 1) := pv_dec_of b43 (by decide +kernel)
theorem d43_65 : pv_dec 43 65 = some (.iaload, 1) := pv_dec_of b43 (by decide +kernel)
theorem d43_66 : pv_dec 43 66 = some (.iload_n 2, 1) := pv_dec_of b43 (by decide +kernel)
theorem d43_67 : pv_dec 43 67 = some (.iadd, 1) := pv_dec_of b43 (by decide +kernel)
theorem d43_68 : pv_dec 43 68 = some (.iastore, 1) := pv_dec_of b43 (by decide +kernel)
theorem d43_69 : pv_dec 43 69 = some (.iinc 3 1, 3) := pv_dec_of b43 (by decide +kernel)
theorem d43_72 : pv_dec 43 72 = some (.goto (-70), 3) := pv_dec_of b43 (by decide +kernel)
theorem d43_75 : pv_dec 43 75 = some (.return_, 1) := pv_dec_of b43 (by decide +kernel)
theorem g43_9 : pv_gf 43 9 = some (2, 5) := by decide +kernel
theorem g43_33 : pv_gf 43 33 = some (2, 12) := by decide +kernel
theorem b42 : pv_bc 42 = prog_7_method_15_code := by decide +kernel
theorem m42 : pv_mL 42 = 6 := by decide +kernel
theorem t42 : pv_rt 42 = none := by decide +kernel
theorem d42_0 : pv_dec 42 0 = some (.aload_n 0, 1) := pv_dec_of b42 (by decide +kernel)
theorem d42_1 : pv_dec 42 1 = some (.getfield 9, 3) := pv_dec_of b42 (by decide +kernel)
theorem d42_4 : pv_dec 42 4 = some (.iconst 3, 1) := pv_dec_of b42 (by decide +kernel)
theorem d42_5 : pv_dec 42 5 = some (.iload_n 1, 1) := pv_dec_of b42 (by decide +kernel)
theorem d42_6 : pv_dec 42 6 = some (.imul, 1) := pv_dec_of b42 (by decide +kernel)
theorem d42_7 : pv_dec 42 7 = some (.iload_n 2, 1) := pv_dec_of b42 (by decide +kernel)
theorem d42_8 : pv_dec 42 8 = some (.iastore, 1) := pv_dec_of b42 (by decide +kernel)
theorem d42_9 : pv_dec 42 9 = some (.aload_n 0, 1) := pv_dec_of b42 (by decide +kernel)
theorem d42_10 : pv_dec 42 10 = some (.getfield 9, 3) := pv_dec_of b42 (by decide +kernel)
theorem d42_13 : pv_dec 42 13 = some (.iconst 3, 1) := pv_dec_of b42 (by decide +kernel)
theorem d42_14 : pv_dec 42 14 = some (.iload_n 1, 1) := pv_dec_of b42 (by decide +kernel)
theorem d42_15 : pv_dec 42 15 = some (.imul, 1) := pv_dec_of b42 (by decide +kernel)
theorem d42_16 : pv_dec 42 16 = some (.iconst 1, 1) := pv_dec_of b42 (by decide +kernel)
theorem d42_17 : pv_dec 42 17 = some (.iadd, 1) := pv_dec_of b42 (by decide +kernel)
theorem d42_18 : pv_dec 42 18 = some (.iload_n 3, 1) := pv_dec_of b42 (by decide +kernel)
theorem d42_19 : pv_dec 42 19 = some (.iastore, 1) := pv_dec_of b42 (by decide +kernel)
theorem d42_20 : pv_dec 42 20 = some (.aload_n 0, 1) := pv_dec_of b42 (by decide +kernel)
theorem d42_21 : pv_dec 42 21 = some (.getfield 9, 3) := pv_dec_of b42 (by decide +kernel)
theorem d42_24 : pv_dec 42 24 = some (.iconst 3, 1) := pv_dec_of b42 (by decide +kernel)
theorem d42_25 : pv_dec 42 25 = some (.iload_n 1, 1) := pv_dec_of b42 (by decide +kernel)
theorem d42_26 : pv_dec 42 26 = some (.imul, 1) := pv_dec_of b42 (by decide +kernel)
theorem d42_27 : pv_dec 42 27 = some (.iconst 2, 1) := pv_dec_of b42 (by decide +kernel)
theorem d42_28 : pv_dec 42 28 = some (.iadd, 1) := pv_dec_of b42 (by decide +kernel)
theorem d42_29 : pv_dec 42 29 = some (.iload 4, 2) := pv_dec_of b42 (by decide +kernel)
theorem d42_31 : pv_dec 42 31 = some (.iastore, 1) := pv_dec_of b42 (by decide +kernel)
theorem d42_32 : pv_dec 42 32 = some (.aload_n 0, 1) := pv_dec_of b42 (by decide +kernel)
theorem d42_33 : pv_dec 42 33 = some (.getfield 15, 3) := pv_dec_of b42 (by decide +kernel)
theorem d42_36 : pv_dec 42 36 = some (.iload_n 1, 1) := pv_dec_of b42 (by decide +kernel)
theorem d42_37 : pv_dec 42 37 = some (.iload 5, 2) := pv_dec_of b42 (by decide +kernel)
theorem d42_39 : pv_dec 42 39 = some (.iastore, 1) := pv_dec_of b42 (by decide +kernel)
theorem d42_40 : pv_dec 42 40 = some (.aload_n 0, 1) := pv_dec_of b42 (by decide +kernel)
theorem d42_41 : pv_dec 42 41 = some (.iload_n 1, 1) := pv_dec_of b42 (by decide +kernel)
theorem d42_42 : pv_dec 42 42 = some (.iconst 1, 1) := pv_dec_of b42 (by decide +kernel)
theorem d42_43 : pv_dec 42 43 = some (.invokevirtual 86, 3) := pv_dec_of b42 (by decide +kernel)
theorem d42_46 : pv_dec 42 46 = some (.return_, 1) := pv_dec_of b42 (by decide +kernel)
theorem g42_9 : pv_gf 42 9 = some (2, 5) := by decide +kernel
theorem g42_15 : pv_gf 42 15 = some (2, 6) := by decide +kernel
theorem k42_86 : pv_kV 42 86 43 2 2 6 = true := by decide +kernel
theorem b126 : pv_bc 126 = prog_7_method_16_code := by decide +kernel
theorem m126 : pv_mL 126 = 2 := by decide +kernel
theorem t126 : pv_rt 126 = none := by decide +kernel
theorem d126_0 : pv_dec 126 0 = some (.aload_n 0, 1) := pv_dec_of b126 (by decide +kernel)
theorem d126_1 : pv_dec 126 1 = some (.iload_n 1, 1) := pv_dec_of b126 (by decide +kernel)
theorem d126_2 : pv_dec 126 2 = some (.iconst (-1), 1) := pv_dec_of b126 (by decide +kernel)
theorem d126_3 : pv_dec 126 3 = some (.invokevirtual 86, 3) := pv_dec_of b126 (by decide +kernel)
theorem d126_6 : pv_dec 126 6 = some (.return_, 1) := pv_dec_of b126 (by decide +kernel)
theorem k126_86 : pv_kV 126 86 43 2 2 6 = true := by decide +kernel
theorem b49 : pv_bc 49 = prog_7_method_18_code := by decide +kernel
theorem m49 : pv_mL 49 = 4 := by decide +kernel
theorem t49 : pv_rt 49 = none := by decide +kernel
theorem d49_0 : pv_dec 49 0 = some (.aload_n 0, 1) := pv_dec_of b49 (by decide +kernel)
theorem d49_1 : pv_dec 49 1 = some (.getfield 30, 3) := pv_dec_of b49 (by decide +kernel)
theorem d49_4 : pv_dec 49 4 = some (.bipush 10, 2) := pv_dec_of b49 (by decide +kernel)
theorem d49_6 : pv_dec 49 6 = some (.iload_n 1, 1) := pv_dec_of b49 (by decide +kernel)
theorem d49_7 : pv_dec 49 7 = some (.imul, 1) := pv_dec_of b49 (by decide +kernel)
theorem d49_8 : pv_dec 49 8 = some (.iload_n 2, 1) := pv_dec_of b49 (by decide +kernel)
theorem d49_9 : pv_dec 49 9 = some (.iadd, 1) := pv_dec_of b49 (by decide +kernel)
theorem d49_10 : pv_dec 49 10 = some (.iload_n 3, 1) := pv_dec_of b49 (by decide +kernel)
theorem d49_11 : pv_dec 49 11 = some (.iastore, 1) := pv_dec_of b49 (by decide +kernel)
theorem d49_12 : pv_dec 49 12 = some (.aload_n 0, 1) := pv_dec_of b49 (by decide +kernel)
theorem d49_13 : pv_dec 49 13 = some (.getfield 30, 3) := pv_dec_of b49 (by decide +kernel)
theorem d49_16 : pv_dec 49 16 = some (.bipush 10, 2) := pv_dec_of b49 (by decide +kernel)
theorem d49_18 : pv_dec 49 18 = some (.iload_n 2, 1) := pv_dec_of b49 (by decide +kernel)
theorem d49_19 : pv_dec 49 19 = some (.imul, 1) := pv_dec_of b49 (by decide +kernel)
theorem d49_20 : pv_dec 49 20 = some (.iload_n 1, 1) := pv_dec_of b49 (by decide +kernel)
theorem d49_21 : pv_dec 49 21 = some (.iadd, 1) := pv_dec_of b49 (by decide +kernel)
theorem d49_22 : pv_dec 49 22 = some (.iload_n 3, 1) := pv_dec_of b49 (by decide +kernel)
theorem d49_23 : pv_dec 49 23 = some (.iastore, 1) := pv_dec_of b49 (by decide +kernel)
theorem d49_24 : pv_dec 49 24 = some (.return_, 1) := pv_dec_of b49 (by decide +kernel)
theorem g49_30 : pv_gf 49 30 = some (2, 11) := by decide +kernel
theorem b57 : pv_bc 57 = prog_7_method_19_code := by decide +kernel
theorem m57 : pv_mL 57 = 4 := by decide +kernel
theorem t57 : pv_rt 57 = some .int := by decide +kernel
theorem d57_0 : pv_dec 57 0 = some (.iconst 0, 1) := pv_dec_of b57 (by decide +kernel)
theorem d57_1 : pv_dec 57 1 = some (.istore_n 2, 1) := pv_dec_of b57 (by decide +kernel)
theorem d57_2 : pv_dec 57 2 = some (.iconst 0, 1) := pv_dec_of b57 (by decide +kernel)
theorem d57_3 : pv_dec 57 3 = some (.istore_n 3, 1) := pv_dec_of b57 (by decide +kernel)
theorem d57_4 : pv_dec 57 4 = some (.iload_n 3, 1) := pv_dec_of b57 (by decide +kernel)
theorem d57_5 : pv_dec 57 5 = some (.aload_n 0, 1) := pv_dec_of b57 (by decide +kernel)
theorem d57_6 : pv_dec 57 6 = some (.getfield 45, 3) := pv_dec_of b57 (by decide +kernel)
theorem d57_9 : pv_dec 57 9 = some (.if_icmp .ge 26, 3) := pv_dec_of b57 (by decide +kernel)
theorem d57_12 : pv_dec 57 12 = some (.iload_n 2, 1) := pv_dec_of b57 (by decide +kernel)
theorem d57_13 : pv_dec 57 13 = some (.aload_n 0, 1) := pv_dec_of b57 (by decide +kernel)
theorem d57_14 : pv_dec 57 14 = some (.iload_n 3, 1) := pv_dec_of b57 (by decide +kernel)
theorem d57_15 : pv_dec 57 15 = some (.iload_n 1, 1) := pv_dec_of b57 (by decide +kernel)
theorem d57_16 : pv_dec 57 16 = some (.invokevirtual 90, 3) := pv_dec_of b57 (by decide +kernel)
theorem d57_19 : pv_dec 57 19 = some (.ifCond .eq 7, 3) := pv_dec_of b57 (by decide +kernel)
theorem d57_22 : pv_dec 57 22 = some (.iconst 1, 1) := pv_dec_of b57 (by decide +kernel)
theorem d57_23 : pv_dec 57 23 = some (.goto 4, 3) := pv_dec_of b57 (by decide +kernel)
theorem d57_26 : pv_dec 57 26 = some (.iconst 0, 1) := pv_dec_of b57 (by decide +kernel)
theorem d57_27 : pv_dec 57 27 = some (.iadd, 1) := pv_dec_of b57 (by decide +kernel)
theorem d57_28 : pv_dec 57 28 = some (.istore_n 2, 1) := pv_dec_of b57 (by decide +kernel)
theorem d57_29 : pv_dec 57 29 = some (.iinc 3 1, 3) := pv_dec_of b57 (by decide +kernel)
theorem d57_32 : pv_dec 57 32 = some (.goto (-28), 3) := pv_dec_of b57 (by decide +kernel)
theorem d57_35 : pv_dec 57 35 = some (.iload_n 2, 1) := pv_dec_of b57 (by decide +kernel)
theorem d57_36 : pv_dec 57 36 = some (.ireturn, 1) := pv_dec_of b57 (by decide +kernel)
theorem g57_45 : pv_gf 57 45 = some (2, 1) := by decide +kernel
theorem k57_90 : pv_kV 57 90 58 2 2 3 = true := by decide +kernel
theorem b59 : pv_bc 59 = prog_7_method_20_code := by decide +kernel
theorem m59 : pv_mL 59 = 4 := by decide +kernel
theorem t59 : pv_rt 59 = some .int := by decide +kernel
theorem d59_0 : pv_dec 59 0 = some (.iconst 0, 1) := pv_dec_of b59 (by decide +kernel)
theorem d59_1 : pv_dec 59 1 = some (.istore_n 2, 1) := pv_dec_of b59 (by decide +kernel)
theorem d59_2 : pv_dec 59 2 = some (.iconst 0, 1) := pv_dec_of b59 (by decide +kernel)
theorem d59_3 : pv_dec 59 3 = some (.istore_n 3, 1) := pv_dec_of b59 (by decide +kernel)
theorem d59_4 : pv_dec 59 4 = some (.iload_n 3, 1) := pv_dec_of b59 (by decide +kernel)
theorem d59_5 : pv_dec 59 5 = some (.aload_n 0, 1) := pv_dec_of b59 (by decide +kernel)
theorem d59_6 : pv_dec 59 6 = some (.getfield 41, 3) := pv_dec_of b59 (by decide +kernel)
theorem d59_9 : pv_dec 59 9 = some (.if_icmp .ge 26, 3) := pv_dec_of b59 (by decide +kernel)
theorem d59_12 : pv_dec 59 12 = some (.iload_n 2, 1) := pv_dec_of b59 (by decide +kernel)
theorem d59_13 : pv_dec 59 13 = some (.aload_n 0, 1) := pv_dec_of b59 (by decide +kernel)
theorem d59_14 : pv_dec 59 14 = some (.iload_n 1, 1) := pv_dec_of b59 (by decide +kernel)
theorem d59_15 : pv_dec 59 15 = some (.iload_n 3, 1) := pv_dec_of b59 (by decide +kernel)
theorem d59_16 : pv_dec 59 16 = some (.invokevirtual 94, 3) := pv_dec_of b59 (by decide +kernel)
theorem d59_19 : pv_dec 59 19 = some (.ifCond .eq 7, 3) := pv_dec_of b59 (by decide +kernel)
theorem d59_22 : pv_dec 59 22 = some (.iconst 1, 1) := pv_dec_of b59 (by decide +kernel)
theorem d59_23 : pv_dec 59 23 = some (.goto 4, 3) := pv_dec_of b59 (by decide +kernel)
theorem d59_26 : pv_dec 59 26 = some (.iconst 0, 1) := pv_dec_of b59 (by decide +kernel)
theorem d59_27 : pv_dec 59 27 = some (.iadd, 1) := pv_dec_of b59 (by decide +kernel)
theorem d59_28 : pv_dec 59 28 = some (.istore_n 2, 1) := pv_dec_of b59 (by decide +kernel)
theorem d59_29 : pv_dec 59 29 = some (.iinc 3 1, 3) := pv_dec_of b59 (by decide +kernel)
theorem d59_32 : pv_dec 59 32 = some (.goto (-28), 3) := pv_dec_of b59 (by decide +kernel)
theorem d59_35 : pv_dec 59 35 = some (.iload_n 2, 1) := pv_dec_of b59 (by decide +kernel)
theorem d59_36 : pv_dec 59 36 = some (.ireturn, 1) := pv_dec_of b59 (by decide +kernel)
theorem g59_41 : pv_gf 59 41 = some (2, 0) := by decide +kernel
theorem k59_94 : pv_kV 59 94 47 2 2 3 = true := by decide +kernel
theorem b68 : pv_bc 68 = prog_7_method_21_code := by decide +kernel
theorem m68 : pv_mL 68 = 3 := by decide +kernel
theorem t68 : pv_rt 68 = some .int := by decide +kernel
theorem d68_0 : pv_dec 68 0 = some (.iconst 0, 1) := pv_dec_of b68 (by decide +kernel)
theorem d68_1 : pv_dec 68 1 = some (.istore_n 1, 1) := pv_dec_of b68 (by decide +kernel)
theorem d68_2 : pv_dec 68 2 = some (.iconst 0, 1) := pv_dec_of b68 (by decide +kernel)
theorem d68_3 : pv_dec 68 3 = some (.istore_n 2, 1) := pv_dec_of b68 (by decide +kernel)
theorem d68_4 : pv_dec 68 4 = some (.iload_n 2, 1) := pv_dec_of b68 (by decide +kernel)
theorem d68_5 : pv_dec 68 5 = some (.aload_n 0, 1) := pv_dec_of b68 (by decide +kernel)
theorem d68_6 : pv_dec 68 6 = some (.getfield 41, 3) := pv_dec_of b68 (by decide +kernel)
theorem d68_9 : pv_dec 68 9 = some (.if_icmp .ge 17, 3) := pv_dec_of b68 (by decide +kernel)
theorem d68_12 : pv_dec 68 12 = some (.iload_n 1, 1) := pv_dec_of b68 (by decide +kernel)
theorem d68_13 : pv_dec 68 13 = some (.aload_n 0, 1) := pv_dec_of b68 (by decide +kernel)
theorem d68_14 : pv_dec 68 14 = some (.iload_n 2, 1) := pv_dec_of b68 (by decide +kernel)
theorem d68_15 : pv_dec 68 15 = some (.invokevirtual 97, 3) := pv_dec_of b68 (by decide +kernel)
theorem d68_18 : pv_dec 68 18 = some (.iadd, 1) := pv_dec_of b68 (by decide +kernel)
theorem d68_19 : pv_dec 68 19 = some (.istore_n 1, 1) := pv_dec_of b68 (by decide +kernel)
theorem d68_20 : pv_dec 68 20 = some (.iinc 2 1, 3) := pv_dec_of b68 (by decide +kernel)
theorem d68_23 : pv_dec 68 23 = some (.goto (-19), 3) := pv_dec_of b68 (by decide +kernel)
theorem d68_26 : pv_dec 68 26 = some (.iload_n 1, 1) := pv_dec_of b68 (by decide +kernel)
theorem d68_27 : pv_dec 68 27 = some (.iconst 2, 1) := pv_dec_of b68 (by decide +kernel)
theorem d68_28 : pv_dec 68 28 = some (.idiv, 1) := pv_dec_of b68 (by decide +kernel)
theorem d68_29 : pv_dec 68 29 = some (.ireturn, 1) := pv_dec_of b68 (by decide +kernel)
theorem g68_41 : pv_gf 68 41 = some (2, 0) := by decide +kernel
theorem k68_97 : pv_kV 68 97 59 2 1 4 = true := by decide +kernel
theorem b62 : pv_bc 62 = prog_7_method_22_code := by decide +kernel
theorem m62 : pv_mL 62 = 5 := by decide +kernel
theorem t62 : pv_rt 62 = some .int := by decide +kernel
theorem d62_0 : pv_dec 62 0 = some (.iconst 0, 1) := pv_dec_of b62 (by decide +kernel)
theorem d62_1 : pv_dec 62 1 = some (.istore_n 2, 1) := pv_dec_of b62 (by decide +kernel)
theorem d62_2 : pv_dec 62 2 = some (.iconst 0, 1) := pv_dec_of b62 (by decide +kernel)
theorem d62_3 : pv_dec 62 3 = some (.istore_n 3, 1) := pv_dec_of b62 (by decide +kernel)
theorem d62_4 : pv_dec 62 4 = some (.iload_n 3, 1) := pv_dec_of b62 (by decide +kernel)
theorem d62_5 : pv_dec 62 5 = some (.aload_n 0, 1) := pv_dec_of b62 (by decide +kernel)
theorem d62_6 : pv_dec 62 6 = some (.getfield 41, 3) := pv_dec_of b62 (by decide +kernel)
theorem d62_9 : pv_dec 62 9 = some (.if_icmp .ge 55, 3) := pv_dec_of b62 (by decide +kernel)
theorem d62_12 : pv_dec 62 12 = some (.iload_n 3, 1) := pv_dec_of b62 (by decide +kernel)
theorem d62_13 : pv_dec 62 13 = some (.iconst 1, 1) := pv_dec_of b62 (by decide +kernel)
theorem d62_14 : pv_dec 62 14 = some (.iadd, 1) := pv_dec_of b62 (by decide +kernel)
theorem d62_15 : pv_dec 62 15 = some (.istore 4, 2) := pv_dec_of b62 (by decide +kernel)
theorem d62_17 : pv_dec 62 17 = some (.iload 4, 2) := pv_dec_of b62 (by decide +kernel)
theorem d62_19 : pv_dec 62 19 = some (.aload_n 0, 1) := pv_dec_of b62 (by decide +kernel)
theorem d62_20 : pv_dec 62 20 = some (.getfield 41, 3) := pv_dec_of b62 (by decide +kernel)
theorem d62_23 : pv_dec 62 23 = some (.if_icmp .ge 35, 3) := pv_dec_of b62 (by decide +kernel)
theorem d62_26 : pv_dec 62 26 = some (.aload_n 0, 1) := pv_dec_of b62 (by decide +kernel)
theorem d62_27 : pv_dec 62 27 = some (.iload_n 3, 1) := pv_dec_of b62 (by decide +kernel)
theorem d62_28 : pv_dec 62 28 = some (.iload 4, 2) := pv_dec_of b62 (by decide +kernel)
theorem d62_30 : pv_dec 62 30 = some (.invokevirtual 94, 3) := pv_dec_of b62 (by decide +kernel)
theorem d62_33 : pv_dec 62 33 = some (.ifCond .eq 19, 3) := pv_dec_of b62 (by decide +kernel)
theorem d62_36 : pv_dec 62 36 = some (.iload_n 2, 1) := pv_dec_of b62 (by decide +kernel)
theorem d62_37 : pv_dec 62 37 = some (.iload_n 1, 1) := pv_dec_of b62 (by decide +kernel)
theorem d62_38 : pv_dec 62 38 = some (.if_icmp .ne 11, 3) := pv_dec_of b62 (by decide +kernel)
theorem d62_41 : pv_dec 62 41 = some (.bipush 10, 2) := pv_dec_of b62 (by decide +kernel)
theorem d62_43 : pv_dec 62 43 = some (.iload_n 3, 1) := pv_dec_of b62 (by decide +kernel)
theorem d62_44 : pv_dec 62 44 = some (.imul, 1) := pv_dec_of b62 (by decide +kernel)
theorem d62_45 : pv_dec 62 45 = some (.iload 4, 2) := pv_dec_of b62 (by decide +kernel)
theorem d62_47 : pv_dec 62 47 = some (.iadd, 1) := pv_dec_of b62 (by decide +kernel)
theorem d62_48 : pv_dec 62 48 = some (.ireturn, 1) := pv_dec_of b62 (by decide +kernel)
theorem d62_49 : pv_dec 62 49 = some (.iinc 2 1, 3) := pv_dec_of b62 (by decide +kernel)
theorem d62_52 : pv_dec 62 52 = some (.iinc 4 1, 3) := pv_dec_of b62 (by decide +kernel)
theorem d62_55 : pv_dec 62 55 = some (.goto (-38), 3) := pv_dec_of b62 (by decide +kernel)
theorem d62_58 : pv_dec 62 58 = some (.iinc 3 1, 3) := pv_dec_of b62 (by decide +kernel)
theorem d62_61 : pv_dec 62 61 = some (.goto (-57), 3) := pv_dec_of b62 (by decide +kernel)
theorem d62_64 : pv_dec 62 64 = some (.iconst (-1), 1) := pv_dec_of b62 (by decide +kernel)
theorem d62_65 : pv_dec 62 65 = some (.ireturn, 1) := pv_dec_of b62 (by decide +kernel)
theorem g62_41 : pv_gf 62 41 = some (2, 0) := by decide +kernel
theorem k62_94 : pv_kV 62 94 47 2 2 3 = true := by decide +kernel
theorem b88 : pv_bc 88 = prog_7_method_23_code := by decide +kernel
theorem m88 : pv_mL 88 = 6 := by decide +kernel
theorem t88 : pv_rt 88 = some .int := by decide +kernel
theorem d88_0 : pv_dec 88 0 = some (.iconst 1, 1) := pv_dec_of b88 (by decide +kernel)
theorem d88_1 : pv_dec 88 1 = some (.iload_n 1, 1) := pv_dec_of b88 (by decide +kernel)
theorem d88_2 : pv_dec 88 2 = some (.ishl, 1) := pv_dec_of b88 (by decide +kernel)
theorem d88_3 : pv_dec 88 3 = some (.iconst 1, 1) := pv_dec_of b88 (by decide +kernel)
theorem d88_4 : pv_dec 88 4 = some (.iload_n 2, 1) := pv_dec_of b88 (by decide +kernel)
theorem d88_5 : pv_dec 88 5 = some (.ishl, 1) := pv_dec_of b88 (by decide +kernel)
theorem d88_6 : pv_dec 88 6 = some (.ior, 1) := pv_dec_of b88 (by decide +kernel)
theorem d88_7 : pv_dec 88 7 = some (.istore 4, 2) := pv_dec_of b88 (by decide +kernel)
theorem d88_9 : pv_dec 88 9 = some (.iconst 0, 1) := pv_dec_of b88 (by decide +kernel)
theorem d88_10 : pv_dec 88 10 = some (.iload_n 3, 1) := pv_dec_of b88 (by decide +kernel)
theorem d88_11 : pv_dec 88 11 = some (.invokestatic 100, 3) := pv_dec_of b88 (by decide +kernel)
theorem d88_14 : pv_dec 88 14 = some (.istore 5, 2) := pv_dec_of b88 (by decide +kernel)
theorem d88_16 : pv_dec 88 16 = some (.iload 5, 2) := pv_dec_of b88 (by decide +kernel)
theorem d88_18 : pv_dec 88 18 = some (.aload_n 0, 1) := pv_dec_of b88 (by decide +kernel)
theorem d88_19 : pv_dec 88 19 = some (.getfield 45, 3) := pv_dec_of b88 (by decide +kernel)
theorem d88_22 : pv_dec 88 22 = some (.if_icmp .ge 26, 3) := pv_dec_of b88 (by decide +kernel)
theorem d88_25 : pv_dec 88 25 = some (.aload_n 0, 1) := pv_dec_of b88 (by decide +kernel)
theorem d88_26 : pv_dec 88 26 = some (.iload 5, 2) := pv_dec_of b88 (by decide +kernel)
theorem d88_28 : pv_dec 88 28 = some (.invokevirtual 82, 3) := pv_dec_of b88 (by decide +kernel)
theorem d88_31 : pv_dec 88 31 = some (.iload 4, 2) := pv_dec_of b88 (by decide +kernel)
theorem d88_33 : pv_dec 88 33 = some (.iand, 1) := pv_dec_of b88 (by decide +kernel)
theorem d88_34 : pv_dec 88 34 = some (.iload 4, 2) := pv_dec_of b88 (by decide +kernel)
theorem d88_36 : pv_dec 88 36 = some (.if_icmp .ne 6, 3) := pv_dec_of b88 (by decide +kernel)
theorem d88_39 : pv_dec 88 39 = some (.iload 5, 2) := pv_dec_of b88 (by decide +kernel)
theorem d88_41 : pv_dec 88 41 = some (.ireturn, 1) := pv_dec_of b88 (by decide +kernel)
theorem d88_42 : pv_dec 88 42 = some (.iinc 5 1, 3) := pv_dec_of b88 (by decide +kernel)
theorem d88_45 : pv_dec 88 45 = some (.goto (-29), 3) := pv_dec_of b88 (by decide +kernel)
theorem d88_48 : pv_dec 88 48 = some (.iconst (-1), 1) := pv_dec_of b88 (by decide +kernel)
theorem d88_49 : pv_dec 88 49 = some (.ireturn, 1) := pv_dec_of b88 (by decide +kernel)
theorem g88_45 : pv_gf 88 45 = some (2, 1) := by decide +kernel
theorem k88_82 : pv_kV 88 82 40 2 1 2 = true := by decide +kernel
theorem k88_100 : pv_kM 88 100 Lib.Math.max.name Lib.Math.max.code 2 (some .int) = true := by decide +kernel
theorem b76 : pv_bc 76 = prog_1_method_50_code := by decide +kernel
theorem m76 : pv_mL 76 = 2 := by decide +kernel
theorem t76 : pv_rt 76 = some .int := by decide +kernel
theorem d76_0 : pv_dec 76 0 = some (.iconst 0, 1) := pv_dec_of b76 (by decide +kernel)
theorem d76_1 : pv_dec 76 1 = some (.istore_n 1, 1) := pv_dec_of b76 (by decide +kernel)
theorem d76_2 : pv_dec 76 2 = some (.iload_n 1, 1) := pv_dec_of b76 (by decide +kernel)
theorem d76_3 : pv_dec 76 3 = some (.bipush 32, 2) := pv_dec_of b76 (by decide +kernel)
theorem d76_5 : pv_dec 76 5 = some (.if_icmp .ge 19, 3) := pv_dec_of b76 (by decide +kernel)
theorem d76_8 : pv_dec 76 8 = some (.iload_n 0, 1) := pv_dec_of b76 (by decide +kernel)
theorem d76_9 : pv_dec 76 9 = some (.iload_n 1, 1) := pv_dec_of b76 (by decide +kernel)
theorem d76_10 : pv_dec 76 10 = some (.ishr, 1) := pv_dec_of b76 (by decide +kernel)
theorem d76_11 : pv_dec 76 11 = some (.iconst 1, 1) := pv_dec_of b76 (by decide +kernel)
theorem d76_12 : pv_dec 76 12 = some (.iand, 1) := pv_dec_of b76 (by decide +kernel)
theorem d76_13 : pv_dec 76 13 = some (.ifCond .eq 5, 3) := pv_dec_of b76 (by decide +kernel)
theorem d76_16 : pv_dec 76 16 = some (.iload_n 1, 1) := pv_dec_of b76 (by decide +kernel)
theorem d76_17 : pv_dec 76 17 = some (.ireturn, 1) := pv_dec_of b76 (by decide +kernel)
theorem d76_18 : pv_dec 76 18 = some (.iinc 1 1, 3) := pv_dec_of b76 (by decide +kernel)
theorem d76_21 : pv_dec 76 21 = some (.goto (-19), 3) := pv_dec_of b76 (by decide +kernel)
theorem d76_24 : pv_dec 76 24 = some (.bipush 32, 2) := pv_dec_of b76 (by decide +kernel)
theorem d76_26 : pv_dec 76 26 = some (.ireturn, 1) := pv_dec_of b76 (by decide +kernel)
theorem b102 : pv_bc 102 = prog_1_method_51_code := by decide +kernel
theorem m102 : pv_mL 102 = 3 := by decide +kernel
theorem t102 : pv_rt 102 = some .boolean := by decide +kernel
theorem d102_0 : pv_dec 102 0 = some (.iload_n 0, 1) := pv_dec_of b102 (by decide +kernel)
theorem d102_1 : pv_dec 102 1 = some (.invokestatic 367, 3) := pv_dec_of b102 (by decide +kernel)
theorem d102_4 : pv_dec 102 4 = some (.iload_n 1, 1) := pv_dec_of b102 (by decide +kernel)
theorem d102_5 : pv_dec 102 5 = some (.invokestatic 367, 3) := pv_dec_of b102 (by decide +kernel)
theorem d102_8 : pv_dec 102 8 = some (.isub, 1) := pv_dec_of b102 (by decide +kernel)
theorem d102_9 : pv_dec 102 9 = some (.istore_n 2, 1) := pv_dec_of b102 (by decide +kernel)
theorem d102_10 : pv_dec 102 10 = some (.iload_n 2, 1) := pv_dec_of b102 (by decide +kernel)
theorem d102_11 : pv_dec 102 11 = some (.ifCond .lt 12, 3) := pv_dec_of b102 (by decide +kernel)
theorem d102_14 : pv_dec 102 14 = some (.iload_n 2, 1) := pv_dec_of b102 (by decide +kernel)
theorem d102_15 : pv_dec 102 15 = some (.ifCond .ne 12, 3) := pv_dec_of b102 (by decide +kernel)
theorem d102_18 : pv_dec 102 18 = some (.iload_n 0, 1) := pv_dec_of b102 (by decide +kernel)
theorem d102_19 : pv_dec 102 19 = some (.iload_n 1, 1) := pv_dec_of b102 (by decide +kernel)
theorem d102_20 : pv_dec 102 20 = some (.if_icmp .ge 7, 3) := pv_dec_of b102 (by decide +kernel)
theorem d102_23 : pv_dec 102 23 = some (.iconst 1, 1) := pv_dec_of b102 (by decide +kernel)
theorem d102_24 : pv_dec 102 24 = some (.goto 4, 3) := pv_dec_of b102 (by decide +kernel)
theorem d102_27 : pv_dec 102 27 = some (.iconst 0, 1) := pv_dec_of b102 (by decide +kernel)
theorem d102_28 : pv_dec 102 28 = some (.ireturn, 1) := pv_dec_of b102 (by decide +kernel)
theorem k102_367 : pv_kS 102 367 67 1 1 = true := by decide +kernel
theorem b117 : pv_bc 117 = prog_1_method_52_code := by decide +kernel
theorem m117 : pv_mL 117 = 2 := by decide +kernel
theorem t117 : pv_rt 117 = some .int := by decide +kernel
theorem d117_0 : pv_dec 117 0 = some (.lload_n 0, 1) := pv_dec_of b117 (by decide +kernel)
theorem d117_1 : pv_dec 117 1 = some (.lconst 0, 1) := pv_dec_of b117 (by decide +kernel)
theorem d117_2 : pv_dec 117 2 = some (.lcmp, 1) := pv_dec_of b117 (by decide +kernel)
theorem d117_3 : pv_dec 117 3 = some (.ifCond .ne 5, 3) := pv_dec_of b117 (by decide +kernel)
theorem d117_6 : pv_dec 117 6 = some (.iconst 0, 1) := pv_dec_of b117 (by decide +kernel)
theorem d117_7 : pv_dec 117 7 = some (.ireturn, 1) := pv_dec_of b117 (by decide +kernel)
theorem d117_8 : pv_dec 117 8 = some (.lload_n 0, 1) := pv_dec_of b117 (by decide +kernel)
theorem d117_9 : pv_dec 117 9 = some (.lconst 0, 1) := pv_dec_of b117 (by decide +kernel)
theorem d117_10 : pv_dec 117 10 = some (.lcmp, 1) := pv_dec_of b117 (by decide +kernel)
theorem d117_11 : pv_dec 117 11 = some (.ifCond .le 7, 3) := pv_dec_of b117 (by decide +kernel)
theorem d117_14 : pv_dec 117 14 = some (.iconst 1, 1) := pv_dec_of b117 (by decide +kernel)
theorem d117_15 : pv_dec 117 15 = some (.goto 4, 3) := pv_dec_of b117 (by decide +kernel)
theorem d117_18 : pv_dec 117 18 = some (.iconst (-1), 1) := pv_dec_of b117 (by decide +kernel)
theorem d117_19 : pv_dec 117 19 = some (.ireturn, 1) := pv_dec_of b117 (by decide +kernel)
theorem b90 : pv_bc 90 = prog_7_method_24_code := by decide +kernel
theorem m90 : pv_mL 90 = 4 := by decide +kernel
theorem t90 : pv_rt 90 = some .int := by decide +kernel
theorem d90_0 : pv_dec 90 0 = some (.aload_n 0, 1) := pv_dec_of b90 (by decide +kernel)
theorem d90_1 : pv_dec 90 1 = some (.iload_n 1, 1) := pv_dec_of b90 (by decide +kernel)
theorem d90_2 : pv_dec 90 2 = some (.invokevirtual 82, 3) := pv_dec_of b90 (by decide +kernel)
theorem d90_5 : pv_dec 90 5 = some (.iconst 1, 1) := pv_dec_of b90 (by decide +kernel)
theorem d90_6 : pv_dec 90 6 = some (.iload_n 2, 1) := pv_dec_of b90 (by decide +kernel)
theorem d90_7 : pv_dec 90 7 = some (.ishl, 1) := pv_dec_of b90 (by decide +kernel)
theorem d90_8 : pv_dec 90 8 = some (.iconst 1, 1) := pv_dec_of b90 (by decide +kernel)
theorem d90_9 : pv_dec 90 9 = some (.iload_n 3, 1) := pv_dec_of b90 (by decide +kernel)
theorem d90_10 : pv_dec 90 10 = some (.ishl, 1) := pv_dec_of b90 (by decide +kernel)
theorem d90_11 : pv_dec 90 11 = some (.ior, 1) := pv_dec_of b90 (by decide +kernel)
theorem d90_12 : pv_dec 90 12 = some (.iconst (-1), 1) := pv_dec_of b90 (by decide +kernel)
theorem d90_13 : pv_dec 90 13 = some (.ixor, 1) := pv_dec_of b90 (by decide +kernel)
theorem d90_14 : pv_dec 90 14 = some (.iand, 1) := pv_dec_of b90 (by decide +kernel)
theorem d90_15 : pv_dec 90 15 = some (.invokestatic 106, 3) := pv_dec_of b90 (by decide +kernel)
theorem d90_18 : pv_dec 90 18 = some (.ireturn, 1) := pv_dec_of b90 (by decide +kernel)
theorem k90_106 : pv_kS 90 106 76 1 2 = true := by decide +kernel
theorem k90_82 : pv_kV 90 82 40 2 1 2 = true := by decide +kernel
theorem b172 : pv_bc 172 = prog_7_method_25_code := by decide +kernel
theorem m172 : pv_mL 172 = 3 := by decide +kernel
theorem t172 : pv_rt 172 = some .int := by decide +kernel
theorem d172_0 : pv_dec 172 0 = some (.iconst 0, 1) := pv_dec_of b172 (by decide +kernel)
theorem d172_1 : pv_dec 172 1 = some (.istore_n 1, 1) := pv_dec_of b172 (by decide +kernel)
theorem d172_2 : pv_dec 172 2 = some (.iconst 0, 1) := pv_dec_of b172 (by decide +kernel)
theorem d172_3 : pv_dec 172 3 = some (.istore_n 2, 1) := pv_dec_of b172 (by decide +kernel)
theorem d172_4 : pv_dec 172 4 = some (.iload_n 2, 1) := pv_dec_of b172 (by decide +kernel)
theorem d172_5 : pv_dec 172 5 = some (.aload_n 0, 1) := pv_dec_of b172 (by decide +kernel)
theorem d172_6 : pv_dec 172 6 = some (.getfield 41, 3) := pv_dec_of b172 (by decide +kernel)
theorem d172_9 : pv_dec 172 9 = some (.if_icmp .ge 29, 3) := pv_dec_of b172 (by decide +kernel)
theorem d172_12 : pv_dec 172 12 = some (.iload_n 1, 1) := pv_dec_of b172 (by decide +kernel)
theorem d172_13 : pv_dec 172 13 = some (.aload_n 0, 1) := pv_dec_of b172 (by decide +kernel)
theorem d172_14 : pv_dec 172 14 = some (.getfield 21, 3) := pv_dec_of b172 (by decide +kernel)
theorem d172_17 : pv_dec 172 17 = some (.iload_n 2, 1) := pv_dec_of b172 (by decide +kernel)
theorem d172_18 : pv_dec 172 18 = some (.iaload, 1) := pv_dec_of b172 (by decide +kernel)
theorem d172_19 : pv_dec 172 19 = some (.iconst (-1), 1) := pv_dec_of b172 (by decide +kernel)
theorem d172_20 : pv_dec 172 20 = some (.if_icmp .eq 9, 3) := pv_dec_of b172 (by decide +kernel)
theorem d172_23 : pv_dec 172 23 = some (.iconst 1, 1) := pv_dec_of b172 (by decide +kernel)
theorem d172_24 : pv_dec 172 24 = some (.iload_n 2, 1) := pv_dec_of b172 (by decide +kernel)
theorem d172_25 : pv_dec 172 25 = some (.ishl, 1) := pv_dec_of b172 (by decide +kernel)
theorem d172_26 : pv_dec 172 26 = some (.goto 4, 3) := pv_dec_of b172 (by decide +kernel)
theorem d172_29 : pv_dec 172 29 = some (.iconst 0, 1) := pv_dec_of b172 (by decide +kernel)
theorem d172_30 : pv_dec 172 30 = some (.ior, 1) := pv_dec_of b172 (by decide +kernel)
theorem d172_31 : pv_dec 172 31 = some (.istore_n 1, 1) := pv_dec_of b172 (by decide +kernel)
theorem d172_32 : pv_dec 172 32 = some (.iinc 2 1, 3) := pv_dec_of b172 (by decide +kernel)
theorem d172_35 : pv_dec 172 35 = some (.goto (-31), 3) := pv_dec_of b172 (by decide +kernel)
theorem d172_38 : pv_dec 172 38 = some (.iload_n 1, 1) := pv_dec_of b172 (by decide +kernel)
theorem d172_39 : pv_dec 172 39 = some (.ireturn, 1) := pv_dec_of b172 (by decide +kernel)
theorem g172_21 : pv_gf 172 21 = some (2, 8) := by decide +kernel
theorem g172_41 : pv_gf 172 41 = some (2, 0) := by decide +kernel
theorem b14 : pv_bc 14 = prog_20_method_103_code := by decide +kernel
theorem m14 : pv_mL 14 = 4 := by decide +kernel
theorem t14 : pv_rt 14 = none := by decide +kernel
theorem d14_0 : pv_dec 14 0 = some (.iconst 0, 1) := pv_dec_of b14 (by decide +kernel)
theorem d14_1 : pv_dec 14 1 = some (.istore_n 2, 1) := pv_dec_of b14 (by decide +kernel)
theorem d14_2 : pv_dec 14 2 = some (.aload_n 0, 1) := pv_dec_of b14 (by decide +kernel)
theorem d14_3 : pv_dec 14 3 = some (.arraylength, 1) := pv_dec_of b14 (by decide +kernel)
theorem d14_4 : pv_dec 14 4 = some (.istore_n 3, 1) := pv_dec_of b14 (by decide +kernel)
theorem d14_5 : pv_dec 14 5 = some (.iload_n 2, 1) := pv_dec_of b14 (by decide +kernel)
theorem d14_6 : pv_dec 14 6 = some (.iload_n 3, 1) := pv_dec_of b14 (by decide +kernel)
theorem d14_7 : pv_dec 14 7 = some (.if_icmp .ge 13, 3) := pv_dec_of b14 (by decide +kernel)
theorem d14_10 : pv_dec 14 10 = some (.aload_n 0, 1) := pv_dec_of b14 (by decide +kernel)
theorem d14_11 : pv_dec 14 11 = some (.iload_n 2, 1) := pv_dec_of b14 (by decide +kernel)
theorem d14_12 : pv_dec 14 12 = some (.iload_n 1, 1) := pv_dec_of b14 (by decide +kernel)
theorem d14_13 : pv_dec 14 13 = some (.iastore, 1) := pv_dec_of b14 (by decide +kernel)
theorem d14_14 : pv_dec 14 14 = some (.iinc 2 1, 3) := pv_dec_of b14 (by decide +kernel)
theorem d14_17 : pv_dec 14 17 = some (.goto (-12), 3) := pv_dec_of b14 (by decide +kernel)
theorem d14_20 : pv_dec 14 20 = some (.return_, 1) := pv_dec_of b14 (by decide +kernel)
end
section
abbrev Q48 (τ : Nat → Option Nat) (ρ : Nat → Nat → Nat) (h : pv_H) (a0 : Nat) (x1 : Int) : Option Value → pv_H → Prop := fun r h' => h = h' ∧ ∃ z : Int, r = some (.int (pv_I z)) ∧ 0 ≤ z ∧ z ≤ 1 ∧ ((z = 1 ∧ 0 ≤ x1 ∧ x1 ≤ 9 ∧ x1 < pv_fI h a0 0) ∨ (z = 0 ∧ (x1 < 0 ∨ pv_fI h a0 0 ≤ x1)))
set_option maxHeartbeats 4000000 in
set_option maxRecDepth 20000 in
/-- AngleNet$Net.isPost(I)Z -/
theorem c48 {τ : Nat → Option Nat} {ρ : Nat → Nat → Nat} {K : Nat → Nat} {h : pv_H} {a0 : Nat} {x1 : Int} (hT : pv_Ty τ ρ h) (hA0 : τ a0 = some 2) (hX1 : (-2147483648) ≤ x1 ∧ x1 ≤ 2147483647) : pv_C K 48 [.ref a0, .int (pv_I x1)] h (Q48 τ ρ h a0 x1) := by
  refine pw_entry 0 ?_
  show pv_T K 48 0 (pv_fl [some (.ref a0), some (.int (pv_I x1))]) [] h (Q48 τ ρ h a0 x1)
  refine pw_iload_n d48_0 rfl ?_
  refine pw_if_lt d48_1 rfl (by omega) (fun c49 => ?_) (fun c49 => ?_)
  · refine pw_iconst d48_16 ?_
    exact pw_zreturn d48_17 t48 (by omega) ⟨rfl, 0, rfl, (by omega), (by omega), (by omega)⟩
  · refine pw_iload_n d48_4 rfl ?_
    refine pw_aload_n d48_5 rfl ?_
    refine pw_getI d48_6 g48_41 hT hA0 rfl rfl (fun u50 vu50 => ?_)
    refine pw_icmp_ge d48_9 rfl (by omega) (by omega) (fun c51 => ?_) (fun c51 => ?_)
    · refine pw_iconst d48_16 ?_
      exact pw_zreturn d48_17 t48 (by omega) ⟨rfl, 0, rfl, (by omega), (by omega), (by omega)⟩
    · refine pw_iconst d48_12 ?_
      refine pw_goto d48_13 rfl ?_
      exact pw_zreturn d48_17 t48 (by omega) ⟨rfl, 1, rfl, (by omega), (by omega), (by omega)⟩

abbrev Q55 (τ : Nat → Option Nat) (ρ : Nat → Nat → Nat) (h : pv_H) (a0 : Nat) (x1 : Int) : Option Value → pv_H → Prop := fun r h' => h = h' ∧ ∃ z : Int, r = some (.int (pv_I z)) ∧ 0 ≤ z ∧ z ≤ 1 ∧ ((z = 1 ∧ 0 ≤ x1 ∧ x1 ≤ 17 ∧ x1 < pv_fI h a0 1) ∨ (z = 0 ∧ (x1 < 0 ∨ pv_fI h a0 1 ≤ x1)))
set_option maxHeartbeats 4000000 in
set_option maxRecDepth 20000 in
/-- AngleNet$Net.isThird(I)Z -/
theorem c55 {τ : Nat → Option Nat} {ρ : Nat → Nat → Nat} {K : Nat → Nat} {h : pv_H} {a0 : Nat} {x1 : Int} (hT : pv_Ty τ ρ h) (hA0 : τ a0 = some 2) (hX1 : (-2147483648) ≤ x1 ∧ x1 ≤ 2147483647) : pv_C K 55 [.ref a0, .int (pv_I x1)] h (Q55 τ ρ h a0 x1) := by
  refine pw_entry 0 ?_
  show pv_T K 55 0 (pv_fl [some (.ref a0), some (.int (pv_I x1))]) [] h (Q55 τ ρ h a0 x1)
  refine pw_iload_n d55_0 rfl ?_
  refine pw_if_lt d55_1 rfl (by omega) (fun c58 => ?_) (fun c58 => ?_)
  · refine pw_iconst d55_16 ?_
    exact pw_zreturn d55_17 t55 (by omega) ⟨rfl, 0, rfl, (by omega), (by omega), (by omega)⟩
  · refine pw_iload_n d55_4 rfl ?_
    refine pw_aload_n d55_5 rfl ?_
    refine pw_getI d55_6 g55_45 hT hA0 rfl rfl (fun u59 vu59 => ?_)
    refine pw_icmp_ge d55_9 rfl (by omega) (by omega) (fun c60 => ?_) (fun c60 => ?_)
    · refine pw_iconst d55_16 ?_
      exact pw_zreturn d55_17 t55 (by omega) ⟨rfl, 0, rfl, (by omega), (by omega), (by omega)⟩
    · refine pw_iconst d55_12 ?_
      refine pw_goto d55_13 rfl ?_
      exact pw_zreturn d55_17 t55 (by omega) ⟨rfl, 1, rfl, (by omega), (by omega), (by omega)⟩

abbrev Q64 (τ : Nat → Option Nat) (ρ : Nat → Nat → Nat) (h : pv_H) (a0 : Nat) : Option Value → pv_H → Prop := fun r h' => h = h' ∧ ∃ z : Int, r = some (.int (pv_I z)) ∧ 0 ≤ z ∧ z ≤ 1
set_option maxHeartbeats 4000000 in
set_option maxRecDepth 20000 in
/-- AngleNet$Net.isThere()Z -/
theorem c64 {τ : Nat → Option Nat} {ρ : Nat → Nat → Nat} {K : Nat → Nat} {h : pv_H} {a0 : Nat} (hT : pv_Ty τ ρ h) (hA0 : τ a0 = some 2) : pv_C K 64 [.ref a0] h (Q64 τ ρ h a0) := by
  refine pw_entry 0 ?_
  show pv_T K 64 0 (pv_fl [some (.ref a0)]) [] h (Q64 τ ρ h a0)
  refine pw_aload_n d64_0 rfl ?_
  refine pw_getI d64_1 g64_41 hT hA0 rfl rfl (fun u65 vu65 => ?_)
  refine pw_if_le d64_4 rfl (by omega) (fun c66 => ?_) (fun c66 => ?_)
  · refine pw_iconst d64_11 ?_
    exact pw_zreturn d64_12 t64 (by omega) ⟨rfl, 0, rfl, (by omega), (by omega)⟩
  · refine pw_iconst d64_7 ?_
    refine pw_goto d64_8 rfl ?_
    exact pw_zreturn d64_12 t64 (by omega) ⟨rfl, 1, rfl, (by omega), (by omega)⟩

abbrev Q47 (τ : Nat → Option Nat) (ρ : Nat → Nat → Nat) (h : pv_H) (a0 : Nat) (x1 : Int) (x2 : Int) : Option Value → pv_H → Prop := fun r h' => h = h' ∧ ∃ z : Int, r = some (.int (pv_I z)) ∧ 0 ≤ z ∧ z ≤ 1 ∧ (z = 1 → 0 ≤ x1 ∧ x1 ≤ 9 ∧ 0 ≤ x2 ∧ x2 ≤ 9)
set_option maxHeartbeats 4000000 in
set_option maxRecDepth 20000 in
/-- AngleNet$Net.isSide(II)Z -/
theorem c47 {τ : Nat → Option Nat} {ρ : Nat → Nat → Nat} {K : Nat → Nat} {h : pv_H} {a0 : Nat} {x1 : Int} {x2 : Int} (hT : pv_Ty τ ρ h) (hA0 : τ a0 = some 2) (hX1 : (-2147483648) ≤ x1 ∧ x1 ≤ 2147483647) (hX2 : (-2147483648) ≤ x2 ∧ x2 ≤ 2147483647) : pv_C K 47 [.ref a0, .int (pv_I x1), .int (pv_I x2)] h (Q47 τ ρ h a0 x1 x2) := by
  refine pw_entry 0 ?_
  show pv_T K 47 0 (pv_fl [some (.ref a0), some (.int (pv_I x1)), some (.int (pv_I x2))]) [] h (Q47 τ ρ h a0 x1 x2)
  refine pw_aload_n d47_0 rfl ?_
  refine pw_iload_n d47_1 rfl ?_
  refine pw_callV1 d47_2 k47_78 hT hA0 rfl rfl rfl (c48 (τ := τ) (ρ := ρ) hT hA0 (by omega)) (fun r103 h104 q105 => ?_)
  obtain ⟨eh104, z108, ez108, lz108, uz108, pz108_0⟩ := q105
  subst eh104
  subst ez108
  refine pw_if_eq d47_5 rfl (by omega) (fun c109 => ?_) (fun c109 => ?_)
  · refine pw_iconst d47_39 ?_
    exact pw_zreturn d47_40 t47 (by omega) ⟨rfl, 0, rfl, (by omega), (by omega), (by omega)⟩
  · refine pw_aload_n d47_8 rfl ?_
    refine pw_iload_n d47_9 rfl ?_
    refine pw_callV1 d47_10 k47_78 hT hA0 rfl rfl rfl (c48 (τ := τ) (ρ := ρ) hT hA0 (by omega)) (fun r110 h111 q112 => ?_)
    obtain ⟨eh111, z115, ez115, lz115, uz115, pz115_0⟩ := q112
    subst eh111
    subst ez115
    refine pw_if_eq d47_13 rfl (by omega) (fun c116 => ?_) (fun c116 => ?_)
    · refine pw_iconst d47_39 ?_
      exact pw_zreturn d47_40 t47 (by omega) ⟨rfl, 0, rfl, (by omega), (by omega), (by omega)⟩
    · refine pw_iload_n d47_16 rfl ?_
      refine pw_iload_n d47_17 rfl ?_
      refine pw_icmp_eq d47_18 rfl (by omega) (by omega) (fun c117 => ?_) (fun c117 => ?_)
      · refine pw_iconst d47_39 ?_
        exact pw_zreturn d47_40 t47 (by omega) ⟨rfl, 0, rfl, (by omega), (by omega), (by omega)⟩
      · refine pw_aload_n d47_21 rfl ?_
        refine pw_getR d47_22 g47_33 hT hA0 rfl rfl (fun t118 => ?_)
        have t118 : τ (ρ a0 12) = some 27 := t118
        refine pw_bipush d47_25 (by decide) ?_
        refine pw_iload_n d47_27 rfl ?_
        refine pw_imul d47_28 ?_
        refine pw_iload_n d47_29 rfl ?_
        refine pw_iadd d47_30 ?_
        refine pw_iald d47_31 hT t118 rfl rfl (by omega) (by omega) (fun u119 vu119 => ?_)
        refine pw_if_le d47_32 rfl (by omega) (fun c120 => ?_) (fun c120 => ?_)
        · refine pw_iconst d47_39 ?_
          exact pw_zreturn d47_40 t47 (by omega) ⟨rfl, 0, rfl, (by omega), (by omega), (by omega)⟩
        · refine pw_iconst d47_35 ?_
          refine pw_goto d47_36 rfl ?_
          exact pw_zreturn d47_40 t47 (by omega) ⟨rfl, 1, rfl, (by omega), (by omega), (by omega)⟩

abbrev Q80 (τ : Nat → Option Nat) (ρ : Nat → Nat → Nat) (h : pv_H) (a0 : Nat) (x1 : Int) (x2 : Int) : Option Value → pv_H → Prop := fun r h' => h = h' ∧ ∃ z : Int, r = some (.int (pv_I z)) ∧ 0 ≤ z ∧ z ≤ 1
set_option maxHeartbeats 4000000 in
set_option maxRecDepth 20000 in
/-- AngleNet$Net.isRim(II)Z -/
theorem c80 {τ : Nat → Option Nat} {ρ : Nat → Nat → Nat} {K : Nat → Nat} {h : pv_H} {a0 : Nat} {x1 : Int} {x2 : Int} (hT : pv_Ty τ ρ h) (hA0 : τ a0 = some 2) (hX1 : (-2147483648) ≤ x1 ∧ x1 ≤ 2147483647) (hX2 : (-2147483648) ≤ x2 ∧ x2 ≤ 2147483647) : pv_C K 80 [.ref a0, .int (pv_I x1), .int (pv_I x2)] h (Q80 τ ρ h a0 x1 x2) := by
  refine pw_entry 0 ?_
  show pv_T K 80 0 (pv_fl [some (.ref a0), some (.int (pv_I x1)), some (.int (pv_I x2))]) [] h (Q80 τ ρ h a0 x1 x2)
  refine pw_aload_n d80_0 rfl ?_
  refine pw_iload_n d80_1 rfl ?_
  refine pw_callV1 d80_2 k80_78 hT hA0 rfl rfl rfl (c48 (τ := τ) (ρ := ρ) hT hA0 (by omega)) (fun r155 h156 q157 => ?_)
  obtain ⟨eh156, z160, ez160, lz160, uz160, pz160_0⟩ := q157
  subst eh156
  subst ez160
  refine pw_if_eq d80_5 rfl (by omega) (fun c161 => ?_) (fun c161 => ?_)
  · refine pw_iconst d80_35 ?_
    exact pw_zreturn d80_36 t80 (by omega) ⟨rfl, 0, rfl, (by omega), (by omega)⟩
  · refine pw_aload_n d80_8 rfl ?_
    refine pw_iload_n d80_9 rfl ?_
    refine pw_callV1 d80_10 k80_78 hT hA0 rfl rfl rfl (c48 (τ := τ) (ρ := ρ) hT hA0 (by omega)) (fun r162 h163 q164 => ?_)
    obtain ⟨eh163, z167, ez167, lz167, uz167, pz167_0⟩ := q164
    subst eh163
    subst ez167
    refine pw_if_eq d80_13 rfl (by omega) (fun c168 => ?_) (fun c168 => ?_)
    · refine pw_iconst d80_35 ?_
      exact pw_zreturn d80_36 t80 (by omega) ⟨rfl, 0, rfl, (by omega), (by omega)⟩
    · refine pw_aload_n d80_16 rfl ?_
      refine pw_getR d80_17 g80_33 hT hA0 rfl rfl (fun t169 => ?_)
      have t169 : τ (ρ a0 12) = some 27 := t169
      refine pw_bipush d80_20 (by decide) ?_
      refine pw_iload_n d80_22 rfl ?_
      refine pw_imul d80_23 ?_
      refine pw_iload_n d80_24 rfl ?_
      refine pw_iadd d80_25 ?_
      refine pw_iald d80_26 hT t169 rfl rfl (by omega) (by omega) (fun u170 vu170 => ?_)
      refine pw_iconst d80_27 ?_
      refine pw_icmp_ne d80_28 rfl (by omega) (by omega) (fun c171 => ?_) (fun c171 => ?_)
      · refine pw_iconst d80_35 ?_
        exact pw_zreturn d80_36 t80 (by omega) ⟨rfl, 0, rfl, (by omega), (by omega)⟩
      · refine pw_iconst d80_31 ?_
        refine pw_goto d80_32 rfl ?_
        exact pw_zreturn d80_36 t80 (by omega) ⟨rfl, 1, rfl, (by omega), (by omega)⟩

abbrev Q112 (τ : Nat → Option Nat) (ρ : Nat → Nat → Nat) (h : pv_H) (a0 : Nat) (x1 : Int) : Option Value → pv_H → Prop := fun r h' => h = h' ∧ ∃ z : Int, r = some (.int (pv_I z)) ∧ 0 ≤ z ∧ z ≤ 1 ∧ (z = 1 → 0 ≤ x1 ∧ x1 ≤ 9)
set_option maxHeartbeats 4000000 in
set_option maxRecDepth 20000 in
/-- AngleNet$Net.hasPlace(I)Z -/
theorem c112 {τ : Nat → Option Nat} {ρ : Nat → Nat → Nat} {K : Nat → Nat} {h : pv_H} {a0 : Nat} {x1 : Int} (hT : pv_Ty τ ρ h) (hA0 : τ a0 = some 2) (hX1 : (-2147483648) ≤ x1 ∧ x1 ≤ 2147483647) : pv_C K 112 [.ref a0, .int (pv_I x1)] h (Q112 τ ρ h a0 x1) := by
  refine pw_entry 0 ?_
  show pv_T K 112 0 (pv_fl [some (.ref a0), some (.int (pv_I x1))]) [] h (Q112 τ ρ h a0 x1)
  refine pw_aload_n d112_0 rfl ?_
  refine pw_iload_n d112_1 rfl ?_
  refine pw_callV1 d112_2 k112_78 hT hA0 rfl rfl rfl (c48 (τ := τ) (ρ := ρ) hT hA0 (by omega)) (fun r192 h193 q194 => ?_)
  obtain ⟨eh193, z197, ez197, lz197, uz197, pz197_0⟩ := q194
  subst eh193
  subst ez197
  refine pw_if_eq d112_5 rfl (by omega) (fun c198 => ?_) (fun c198 => ?_)
  · refine pw_iconst d112_22 ?_
    exact pw_zreturn d112_23 t112 (by omega) ⟨rfl, 0, rfl, (by omega), (by omega), (by omega)⟩
  · refine pw_aload_n d112_8 rfl ?_
    refine pw_getR d112_9 g112_21 hT hA0 rfl rfl (fun t199 => ?_)
    have t199 : τ (ρ a0 8) = some 23 := t199
    refine pw_iload_n d112_12 rfl ?_
    refine pw_iald d112_13 hT t199 rfl rfl (by omega) (by omega) (fun u200 vu200 => ?_)
    refine pw_iconst d112_14 ?_
    refine pw_icmp_eq d112_15 rfl (by omega) (by omega) (fun c201 => ?_) (fun c201 => ?_)
    · refine pw_iconst d112_22 ?_
      exact pw_zreturn d112_23 t112 (by omega) ⟨rfl, 0, rfl, (by omega), (by omega), (by omega)⟩
    · refine pw_iconst d112_18 ?_
      refine pw_goto d112_19 rfl ?_
      exact pw_zreturn d112_23 t112 (by omega) ⟨rfl, 1, rfl, (by omega), (by omega), (by omega)⟩

abbrev Q40 (τ : Nat → Option Nat) (ρ : Nat → Nat → Nat) (h : pv_H) (a0 : Nat) (x1 : Int) : Option Value → pv_H → Prop := fun r h' => h = h' ∧ ∃ z : Int, r = some (.int (pv_I z)) ∧ (-2147483648) ≤ z ∧ z ≤ 2147483647
set_option maxHeartbeats 4000000 in
set_option maxRecDepth 20000 in
/-- AngleNet$Net.postsOf(I)I -/
theorem c40 {τ : Nat → Option Nat} {ρ : Nat → Nat → Nat} {K : Nat → Nat} {h : pv_H} {a0 : Nat} {x1 : Int} (hT : pv_Ty τ ρ h) (hA0 : τ a0 = some 2) (hX1 : 0 ≤ x1 ∧ x1 ≤ 17) : pv_C K 40 [.ref a0, .int (pv_I x1)] h (Q40 τ ρ h a0 x1) := by
  refine pw_entry 0 ?_
  show pv_T K 40 0 (pv_fl [some (.ref a0), some (.int (pv_I x1))]) [] h (Q40 τ ρ h a0 x1)
  refine pw_iconst d40_0 ?_
  refine pw_aload_n d40_1 rfl ?_
  refine pw_getR d40_2 g40_9 hT hA0 rfl rfl (fun t224 => ?_)
  have t224 : τ (ρ a0 5) = some 20 := t224
  refine pw_iconst d40_5 ?_
  refine pw_iload_n d40_6 rfl ?_
  refine pw_imul d40_7 ?_
  refine pw_iald d40_8 hT t224 rfl rfl (by omega) (by omega) (fun u225 vu225 => ?_)
  refine pw_ishl d40_9 (fun z226 hz226 ez226 => ?_)
  refine pw_iconst d40_10 ?_
  refine pw_aload_n d40_11 rfl ?_
  refine pw_getR d40_12 g40_9 hT hA0 rfl rfl (fun t227 => ?_)
  have t227 : τ (ρ a0 5) = some 20 := t227
  refine pw_iconst d40_15 ?_
  refine pw_iload_n d40_16 rfl ?_
  refine pw_imul d40_17 ?_
  refine pw_iconst d40_18 ?_
  refine pw_iadd d40_19 ?_
  refine pw_iald d40_20 hT t227 rfl rfl (by omega) (by omega) (fun u228 vu228 => ?_)
  refine pw_ishl d40_21 (fun z229 hz229 ez229 => ?_)
  refine pw_ior d40_22 (fun z230 hz230 ez230 => ?_)
  refine pw_iconst d40_23 ?_
  refine pw_aload_n d40_24 rfl ?_
  refine pw_getR d40_25 g40_9 hT hA0 rfl rfl (fun t231 => ?_)
  have t231 : τ (ρ a0 5) = some 20 := t231
  refine pw_iconst d40_28 ?_
  refine pw_iload_n d40_29 rfl ?_
  refine pw_imul d40_30 ?_
  refine pw_iconst d40_31 ?_
  refine pw_iadd d40_32 ?_
  refine pw_iald d40_33 hT t231 rfl rfl (by omega) (by omega) (fun u232 vu232 => ?_)
  refine pw_ishl d40_34 (fun z233 hz233 ez233 => ?_)
  refine pw_ior d40_35 (fun z234 hz234 ez234 => ?_)
  exact pw_ireturn d40_36 t40 ⟨rfl, z234, rfl, (by omega), (by omega)⟩

abbrev Q58 (τ : Nat → Option Nat) (ρ : Nat → Nat → Nat) (h : pv_H) (a0 : Nat) (x1 : Int) (x2 : Int) : Option Value → pv_H → Prop := fun r h' => h = h' ∧ ∃ z : Int, r = some (.int (pv_I z)) ∧ 0 ≤ z ∧ z ≤ 1
set_option maxHeartbeats 4000000 in
set_option maxRecDepth 20000 in
/-- AngleNet$Net.hasPost(II)Z -/
theorem c58 {τ : Nat → Option Nat} {ρ : Nat → Nat → Nat} {K : Nat → Nat} {h : pv_H} {a0 : Nat} {x1 : Int} {x2 : Int} (hT : pv_Ty τ ρ h) (hA0 : τ a0 = some 2) (hX1 : 0 ≤ x1 ∧ x1 ≤ 17) (hX2 : (-2147483648) ≤ x2 ∧ x2 ≤ 2147483647) : pv_C K 58 [.ref a0, .int (pv_I x1), .int (pv_I x2)] h (Q58 τ ρ h a0 x1 x2) := by
  refine pw_entry 0 ?_
  show pv_T K 58 0 (pv_fl [some (.ref a0), some (.int (pv_I x1)), some (.int (pv_I x2))]) [] h (Q58 τ ρ h a0 x1 x2)
  refine pw_aload_n d58_0 rfl ?_
  refine pw_iload_n d58_1 rfl ?_
  refine pw_callV1 d58_2 k58_82 hT hA0 rfl rfl rfl (c40 (τ := τ) (ρ := ρ) hT hA0 (by omega)) (fun r253 h254 q255 => ?_)
  obtain ⟨eh254, z258, ez258, lz258, uz258⟩ := q255
  subst eh254
  subst ez258
  refine pw_iload_n d58_5 rfl ?_
  refine pw_ishr d58_6 (fun z259 hz259 ez259 => ?_)
  refine pw_iconst d58_7 ?_
  refine pw_iand d58_8 (fun z260 hz260 ez260 => ?_)
  refine pw_if_eq d58_9 rfl (by omega) (fun c261 => ?_) (fun c261 => ?_)
  · refine pw_iconst d58_16 ?_
    exact pw_zreturn d58_17 t58 (by omega) ⟨rfl, 0, rfl, (by omega), (by omega)⟩
  · refine pw_iconst d58_12 ?_
    refine pw_goto d58_13 rfl ?_
    exact pw_zreturn d58_17 t58 (by omega) ⟨rfl, 1, rfl, (by omega), (by omega)⟩

abbrev Q39 (τ : Nat → Option Nat) (ρ : Nat → Nat → Nat) (h : pv_H) (a0 : Nat) (x1 : Int) (x2 : Int) (x3 : Int) : Option Value → pv_H → Prop := fun r h' => h = h' ∧ ∃ z : Int, r = some (.int (pv_I z)) ∧ 0 ≤ z ∧ z ≤ 1
set_option maxHeartbeats 4000000 in
set_option maxRecDepth 20000 in
/-- AngleNet$Net.takesThird(III)Z -/
theorem c39 {τ : Nat → Option Nat} {ρ : Nat → Nat → Nat} {K : Nat → Nat} {h : pv_H} {a0 : Nat} {x1 : Int} {x2 : Int} {x3 : Int} (hT : pv_Ty τ ρ h) (hA0 : τ a0 = some 2) (hX1 : 0 ≤ x1 ∧ x1 ≤ 9) (hX2 : 0 ≤ x2 ∧ x2 ≤ 9) (hX3 : 0 ≤ x3 ∧ x3 ≤ 9) : pv_C K 39 [.ref a0, .int (pv_I x1), .int (pv_I x2), .int (pv_I x3)] h (Q39 τ ρ h a0 x1 x2 x3) := by
  refine pw_entry 2 ?_
  show pv_T K 39 0 (pv_fl [some (.ref a0), some (.int (pv_I x1)), some (.int (pv_I x2)), some (.int (pv_I x3)), none, none]) [] h (Q39 τ ρ h a0 x1 x2 x3)
  have L16 : ∀ (nn : Nat) (xL4_16 xL5_16 : Int), (0 ≤ x1 ∧ x1 ≤ 9) → (0 ≤ x2 ∧ x2 ≤ 9) → (0 ≤ x3 ∧ x3 ≤ 9) → ((-2147483648) ≤ xL4_16 ∧ xL4_16 ≤ 2147483647) → (0 ≤ xL5_16 ∧ xL5_16 ≤ 18) → 18 - xL5_16 < nn → pv_T K 39 16 (pv_fl [some (.ref a0), some (.int (pv_I x1)), some (.int (pv_I x2)), some (.int (pv_I x3)), some (.int (pv_I xL4_16)), some (.int (pv_I xL5_16))]) [] h (Q39 τ ρ h a0 x1 x2 x3) := by
    intro nn
    induction nn with
    | zero => intro xL4_16 xL5_16 rL1_16 rL2_16 rL3_16 rL4_16 rL5_16 hm; exfalso; omega
    | succ nn ih16 =>
      intro xL4_16 xL5_16 rL1_16 rL2_16 rL3_16 rL4_16 rL5_16 hm16
      refine pw_iload d39_16 rfl ?_
      refine pw_aload_n d39_18 rfl ?_
      refine pw_getI d39_19 g39_45 hT hA0 rfl rfl (fun u488 vu488 => ?_)
      refine pw_icmp_ge d39_22 rfl (by omega) (by omega) (fun c489 => ?_) (fun c489 => ?_)
      · refine pw_aload_n d39_44 rfl ?_
        refine pw_getR d39_45 g39_33 hT hA0 rfl rfl (fun t490 => ?_)
        have t490 : τ (ρ a0 12) = some 27 := t490
        refine pw_bipush d39_48 (by decide) ?_
        refine pw_iload_n d39_50 rfl ?_
        refine pw_imul d39_51 ?_
        refine pw_iload_n d39_52 rfl ?_
        refine pw_iadd d39_53 ?_
        refine pw_iald d39_54 hT t490 rfl rfl (by omega) (by omega) (fun u491 vu491 => ?_)
        refine pw_iconst d39_55 ?_
        refine pw_icmp_ge d39_56 rfl (by omega) (by omega) (fun c492 => ?_) (fun c492 => ?_)
        · refine pw_iconst d39_93 ?_
          exact pw_zreturn d39_94 t39 (by omega) ⟨rfl, 0, rfl, (by omega), (by omega)⟩
        · refine pw_aload_n d39_59 rfl ?_
          refine pw_getR d39_60 g39_33 hT hA0 rfl rfl (fun t493 => ?_)
          have t493 : τ (ρ a0 12) = some 27 := t493
          refine pw_bipush d39_63 (by decide) ?_
          refine pw_iload_n d39_65 rfl ?_
          refine pw_imul d39_66 ?_
          refine pw_iload_n d39_67 rfl ?_
          refine pw_iadd d39_68 ?_
          refine pw_iald d39_69 hT t493 rfl rfl (by omega) (by omega) (fun u494 vu494 => ?_)
          refine pw_iconst d39_70 ?_
          refine pw_icmp_ge d39_71 rfl (by omega) (by omega) (fun c495 => ?_) (fun c495 => ?_)
          · refine pw_iconst d39_93 ?_
            exact pw_zreturn d39_94 t39 (by omega) ⟨rfl, 0, rfl, (by omega), (by omega)⟩
          · refine pw_aload_n d39_74 rfl ?_
            refine pw_getR d39_75 g39_33 hT hA0 rfl rfl (fun t496 => ?_)
            have t496 : τ (ρ a0 12) = some 27 := t496
            refine pw_bipush d39_78 (by decide) ?_
            refine pw_iload_n d39_80 rfl ?_
            refine pw_imul d39_81 ?_
            refine pw_iload_n d39_82 rfl ?_
            refine pw_iadd d39_83 ?_
            refine pw_iald d39_84 hT t496 rfl rfl (by omega) (by omega) (fun u497 vu497 => ?_)
            refine pw_iconst d39_85 ?_
            refine pw_icmp_ge d39_86 rfl (by omega) (by omega) (fun c498 => ?_) (fun c498 => ?_)
            · refine pw_iconst d39_93 ?_
              exact pw_zreturn d39_94 t39 (by omega) ⟨rfl, 0, rfl, (by omega), (by omega)⟩
            · refine pw_iconst d39_89 ?_
              refine pw_goto d39_90 rfl ?_
              exact pw_zreturn d39_94 t39 (by omega) ⟨rfl, 1, rfl, (by omega), (by omega)⟩
      · refine pw_aload_n d39_25 rfl ?_
        refine pw_iload d39_26 rfl ?_
        refine pw_callV1 d39_28 k39_82 hT hA0 rfl rfl rfl (c40 (τ := τ) (ρ := ρ) hT hA0 (by omega)) (fun r499 h500 q501 => ?_)
        obtain ⟨eh500, z504, ez504, lz504, uz504⟩ := q501
        subst eh500
        subst ez504
        refine pw_iload d39_31 rfl ?_
        refine pw_icmp_ne d39_33 rfl (by omega) (by omega) (fun c505 => ?_) (fun c505 => ?_)
        · refine pw_iinc d39_38 m39 rfl rfl rfl ?_
          refine pw_goto d39_41 rfl ?_
          exact ih16 (xL4_16) ((xL5_16 + 1)) (by omega) (by omega) (by omega) (by omega) (by omega) (by omega)
        · refine pw_iconst d39_36 ?_
          exact pw_zreturn d39_37 t39 (by omega) ⟨rfl, 0, rfl, (by omega), (by omega)⟩
  refine pw_iconst d39_0 ?_
  refine pw_iload_n d39_1 rfl ?_
  refine pw_ishl d39_2 (fun z506 hz506 ez506 => ?_)
  refine pw_iconst d39_3 ?_
  refine pw_iload_n d39_4 rfl ?_
  refine pw_ishl d39_5 (fun z507 hz507 ez507 => ?_)
  refine pw_ior d39_6 (fun z508 hz508 ez508 => ?_)
  refine pw_iconst d39_7 ?_
  refine pw_iload_n d39_8 rfl ?_
  refine pw_ishl d39_9 (fun z509 hz509 ez509 => ?_)
  refine pw_ior d39_10 (fun z510 hz510 ez510 => ?_)
  refine pw_istore d39_11 m39 rfl rfl ?_
  refine pw_iconst d39_13 ?_
  refine pw_istore d39_14 m39 rfl rfl ?_
  exact L16 _ (z510) (0) (by omega) (by omega) (by omega) (by omega) (by omega) (pv_mu _)

abbrev Q43 (τ : Nat → Option Nat) (ρ : Nat → Nat → Nat) (h : pv_H) (a0 : Nat) (x1 : Int) (x2 : Int) : Option Value → pv_H → Prop := fun r h' => pv_Ty τ ρ h' ∧ pv_Fr τ [1791] h h' ∧ r = none
set_option maxHeartbeats 4000000 in
set_option maxRecDepth 20000 in
/-- AngleNet$Net.shareSides(II)V -/
theorem c43 {τ : Nat → Option Nat} {ρ : Nat → Nat → Nat} {K : Nat → Nat} {h : pv_H} {a0 : Nat} {x1 : Int} {x2 : Int} (hT : pv_Ty τ ρ h) (hA0 : τ a0 = some 2) (hX1 : 0 ≤ x1 ∧ x1 ≤ 17) (hX2 : (-2147483648) ≤ x2 ∧ x2 ≤ 2147483647) : pv_C K 43 [.ref a0, .int (pv_I x1), .int (pv_I x2)] h (Q43 τ ρ h a0 x1 x2) := by
  refine pw_entry 3 ?_
  show pv_T K 43 0 (pv_fl [some (.ref a0), some (.int (pv_I x1)), some (.int (pv_I x2)), none, none, none]) [] h (Q43 τ ρ h a0 x1 x2)
  have hF0 : pv_Fr τ [1791] h h := pv_Fr.rf
  have L2 : ∀ (nn : Nat) (h_2 : pv_H) (xL3_2 : Int) (o4_2 o5_2 : Option Value), (pv_Ty τ ρ h_2) → (pv_Fr τ [1791] h h_2) → (0 ≤ x1 ∧ x1 ≤ 17) → ((-2147483648) ≤ x2 ∧ x2 ≤ 2147483647) → (0 ≤ xL3_2 ∧ xL3_2 ≤ 3) → 3 - xL3_2 < nn → pv_T K 43 2 (pv_fl [some (.ref a0), some (.int (pv_I x1)), some (.int (pv_I x2)), some (.int (pv_I xL3_2)), o4_2, o5_2]) [] h_2 (Q43 τ ρ h a0 x1 x2) := by
    intro nn
    induction nn with
    | zero => intro h_2 xL3_2 o4_2 o5_2 hT_2 hF_2 rL1_2 rL2_2 rL3_2 hm; exfalso; omega
    | succ nn ih2 =>
      intro h_2 xL3_2 o4_2 o5_2 hT_2 hF_2 rL1_2 rL2_2 rL3_2 hm2
      refine pw_iload_n d43_2 rfl ?_
      refine pw_iconst d43_3 ?_
      refine pw_icmp_ge d43_4 rfl (by omega) (by omega) (fun c626 => ?_) (fun c626 => ?_)
      · exact pw_return d43_75 t43 ⟨hT_2, hF_2, rfl⟩
      · refine pw_aload_n d43_7 rfl ?_
        refine pw_getR d43_8 g43_9 hT_2 hA0 rfl rfl (fun t627 => ?_)
        have t627 : τ (ρ a0 5) = some 20 := t627
        refine pw_iconst d43_11 ?_
        refine pw_iload_n d43_12 rfl ?_
        refine pw_imul d43_13 ?_
        refine pw_iload_n d43_14 rfl ?_
        refine pw_iadd d43_15 ?_
        refine pw_iald d43_16 hT_2 t627 rfl rfl (by omega) (by omega) (fun u628 vu628 => ?_)
        refine pw_istore d43_17 m43 rfl rfl ?_
        refine pw_aload_n d43_19 rfl ?_
        refine pw_getR d43_20 g43_9 hT_2 hA0 rfl rfl (fun t629 => ?_)
        have t629 : τ (ρ a0 5) = some 20 := t629
        refine pw_iconst d43_23 ?_
        refine pw_iload_n d43_24 rfl ?_
        refine pw_imul d43_25 ?_
        refine pw_iload_n d43_26 rfl ?_
        refine pw_iconst d43_27 ?_
        refine pw_iadd d43_28 ?_
        refine pw_iconst d43_29 ?_
        refine pw_irem d43_30 (by omega) (by omega) (by omega) (by omega) ?_
        refine pw_iadd d43_31 ?_
        refine pw_iald d43_32 hT_2 t629 rfl rfl (by omega) (by omega) (fun u630 vu630 => ?_)
        refine pw_istore d43_33 m43 rfl rfl ?_
        refine pw_aload_n d43_35 rfl ?_
        refine pw_getR d43_36 g43_33 hT_2 hA0 rfl rfl (fun t631 => ?_)
        have t631 : τ (ρ a0 12) = some 27 := t631
        refine pw_bipush d43_39 (by decide) ?_
        refine pw_iload d43_41 rfl ?_
        refine pw_imul d43_43 ?_
        refine pw_iload d43_44 rfl ?_
        refine pw_iadd d43_46 ?_
        refine pw_dup2 d43_47 rfl rfl ?_
        refine pw_iald d43_48 hT_2 t631 rfl rfl (by omega) (by omega) (fun u632 vu632 => ?_)
        refine pw_name (x := (pv_aI h_2 (ρ a0 12) (((10 * (pv_aI h_2 (ρ a0 5) (((3 * x1) + xL3_2)).toNat)) + (pv_aI h_2 (ρ a0 5) (((3 * x1) + ((xL3_2 + 1) % 3))).toNat))).toNat)) (fun z633 ez633 => ?_)
        have hz633 : (-2147483648) ≤ z633 ∧ z633 ≤ 2147483647 := by subst ez633; omega
        refine pw_iload_n d43_49 rfl ?_
        refine pw_iadd d43_50 ?_
        refine pw_any (fun z634 hz634 ez634 => ?_)
        refine pw_iast d43_51 hT_2 t631 rfl rfl rfl (by omega) (by omega) (by omega) (by omega) (fun h635 T636 F637 E638 => ?_)
        have f639 := hF_2.tr (F637.up (by decide))
        refine pw_aload_n d43_52 rfl ?_
        refine pw_getR d43_53 g43_33 T636 hA0 rfl rfl (fun t640 => ?_)
        have t640 : τ (ρ a0 12) = some 27 := t640
        refine pw_bipush d43_56 (by decide) ?_
        refine pw_iload d43_58 rfl ?_
        refine pw_imul d43_60 ?_
        refine pw_iload d43_61 rfl ?_
        refine pw_iadd d43_63 ?_
        refine pw_dup2 d43_64 rfl rfl ?_
        refine pw_iald d43_65 T636 t640 rfl rfl (by omega) (by omega) (fun u641 vu641 => ?_)
        refine pw_name (x := (pv_aI h635 (ρ a0 12) (((10 * (pv_aI h_2 (ρ a0 5) (((3 * x1) + ((xL3_2 + 1) % 3))).toNat)) + (pv_aI h_2 (ρ a0 5) (((3 * x1) + xL3_2)).toNat))).toNat)) (fun z642 ez642 => ?_)
        have hz642 : (-2147483648) ≤ z642 ∧ z642 ≤ 2147483647 := by subst ez642; omega
        refine pw_iload_n d43_66 rfl ?_
        refine pw_iadd d43_67 ?_
        refine pw_any (fun z643 hz643 ez643 => ?_)
        refine pw_iast d43_68 T636 t640 rfl rfl rfl (by omega) (by omega) (by omega) (by omega) (fun h644 T645 F646 E647 => ?_)
        have f648 := f639.tr (F646.up (by decide))
        refine pw_iinc d43_69 m43 rfl rfl rfl ?_
        refine pw_goto d43_72 rfl ?_
        exact ih2 h644 ((xL3_2 + 1)) _ _ T645 f648 (by omega) (by omega) (by omega) (by omega)
  refine pw_iconst d43_0 ?_
  refine pw_istore_n d43_1 m43 rfl rfl ?_
  exact L2 _ h (0) _ _ hT hF0 (by omega) (by omega) (by omega) (pv_mu _)

abbrev Q42 (τ : Nat → Option Nat) (ρ : Nat → Nat → Nat) (h : pv_H) (a0 : Nat) (x1 : Int) (x2 : Int) (x3 : Int) (x4 : Int) (x5 : Int) : Option Value → pv_H → Prop := fun r h' => pv_Ty τ ρ h' ∧ pv_Fr τ [1343, 1407, 1791] h h' ∧ r = none
set_option maxHeartbeats 4000000 in
set_option maxRecDepth 20000 in
/-- AngleNet$Net.putThird(IIIII)V -/
theorem c42 {τ : Nat → Option Nat} {ρ : Nat → Nat → Nat} {K : Nat → Nat} {h : pv_H} {a0 : Nat} {x1 : Int} {x2 : Int} {x3 : Int} {x4 : Int} {x5 : Int} (hT : pv_Ty τ ρ h) (hA0 : τ a0 = some 2) (hX1 : 0 ≤ x1 ∧ x1 ≤ 17) (hX2 : 0 ≤ x2 ∧ x2 ≤ 9) (hX3 : 0 ≤ x3 ∧ x3 ≤ 9) (hX4 : 0 ≤ x4 ∧ x4 ≤ 9) (hX5 : 0 ≤ x5 ∧ x5 ≤ 540) : pv_C K 42 [.ref a0, .int (pv_I x1), .int (pv_I x2), .int (pv_I x3), .int (pv_I x4), .int (pv_I x5)] h (Q42 τ ρ h a0 x1 x2 x3 x4 x5) := by
  refine pw_entry 0 ?_
  show pv_T K 42 0 (pv_fl [some (.ref a0), some (.int (pv_I x1)), some (.int (pv_I x2)), some (.int (pv_I x3)), some (.int (pv_I x4)), some (.int (pv_I x5))]) [] h (Q42 τ ρ h a0 x1 x2 x3 x4 x5)
  have hF0 : pv_Fr τ [1343, 1407, 1791] h h := pv_Fr.rf
  refine pw_aload_n d42_0 rfl ?_
  refine pw_getR d42_1 g42_9 hT hA0 rfl rfl (fun t711 => ?_)
  have t711 : τ (ρ a0 5) = some 20 := t711
  refine pw_iconst d42_4 ?_
  refine pw_iload_n d42_5 rfl ?_
  refine pw_imul d42_6 ?_
  refine pw_iload_n d42_7 rfl ?_
  refine pw_iast d42_8 hT t711 rfl rfl rfl (by omega) (by omega) (by omega) (by omega) (fun h712 T713 F714 E715 => ?_)
  have f716 := hF0.tr (F714.up (by decide))
  refine pw_aload_n d42_9 rfl ?_
  refine pw_getR d42_10 g42_9 T713 hA0 rfl rfl (fun t717 => ?_)
  have t717 : τ (ρ a0 5) = some 20 := t717
  refine pw_iconst d42_13 ?_
  refine pw_iload_n d42_14 rfl ?_
  refine pw_imul d42_15 ?_
  refine pw_iconst d42_16 ?_
  refine pw_iadd d42_17 ?_
  refine pw_iload_n d42_18 rfl ?_
  refine pw_iast d42_19 T713 t717 rfl rfl rfl (by omega) (by omega) (by omega) (by omega) (fun h718 T719 F720 E721 => ?_)
  have f722 := f716.tr (F720.up (by decide))
  refine pw_aload_n d42_20 rfl ?_
  refine pw_getR d42_21 g42_9 T719 hA0 rfl rfl (fun t723 => ?_)
  have t723 : τ (ρ a0 5) = some 20 := t723
  refine pw_iconst d42_24 ?_
  refine pw_iload_n d42_25 rfl ?_
  refine pw_imul d42_26 ?_
  refine pw_iconst d42_27 ?_
  refine pw_iadd d42_28 ?_
  refine pw_iload d42_29 rfl ?_
  refine pw_iast d42_31 T719 t723 rfl rfl rfl (by omega) (by omega) (by omega) (by omega) (fun h724 T725 F726 E727 => ?_)
  have f728 := f722.tr (F726.up (by decide))
  refine pw_aload_n d42_32 rfl ?_
  refine pw_getR d42_33 g42_15 T725 hA0 rfl rfl (fun t729 => ?_)
  have t729 : τ (ρ a0 6) = some 21 := t729
  refine pw_iload_n d42_36 rfl ?_
  refine pw_iload d42_37 rfl ?_
  refine pw_iast d42_39 T725 t729 rfl rfl rfl (by omega) (by omega) (by omega) (by omega) (fun h730 T731 F732 E733 => ?_)
  have f734 := f728.tr (F732.up (by decide))
  refine pw_aload_n d42_40 rfl ?_
  refine pw_iload_n d42_41 rfl ?_
  refine pw_iconst d42_42 ?_
  refine pw_callV2 d42_43 k42_86 T731 hA0 rfl rfl rfl (c43 (τ := τ) (ρ := ρ) T731 hA0 (by omega) (by omega)) (fun r735 h736 q737 => ?_)
  obtain ⟨T738, F739, ez740⟩ := q737
  subst ez740
  have f741 := f734.tr (F739.up (by decide))
  exact pw_return d42_46 t42 ⟨T738, f741, rfl⟩

abbrev Q126 (τ : Nat → Option Nat) (ρ : Nat → Nat → Nat) (h : pv_H) (a0 : Nat) (x1 : Int) : Option Value → pv_H → Prop := fun r h' => pv_Ty τ ρ h' ∧ pv_Fr τ [1791] h h' ∧ r = none
set_option maxHeartbeats 4000000 in
set_option maxRecDepth 20000 in
/-- AngleNet$Net.liftThird(I)V -/
theorem c126 {τ : Nat → Option Nat} {ρ : Nat → Nat → Nat} {K : Nat → Nat} {h : pv_H} {a0 : Nat} {x1 : Int} (hT : pv_Ty τ ρ h) (hA0 : τ a0 = some 2) (hX1 : 0 ≤ x1 ∧ x1 ≤ 17) : pv_C K 126 [.ref a0, .int (pv_I x1)] h (Q126 τ ρ h a0 x1) := by
  refine pw_entry 0 ?_
  show pv_T K 126 0 (pv_fl [some (.ref a0), some (.int (pv_I x1))]) [] h (Q126 τ ρ h a0 x1)
  have hF0 : pv_Fr τ [1791] h h := pv_Fr.rf
  refine pw_aload_n d126_0 rfl ?_
  refine pw_iload_n d126_1 rfl ?_
  refine pw_iconst d126_2 ?_
  refine pw_callV2 d126_3 k126_86 hT hA0 rfl rfl rfl (c43 (τ := τ) (ρ := ρ) hT hA0 (by omega) (by omega)) (fun r756 h757 q758 => ?_)
  obtain ⟨T759, F760, ez761⟩ := q758
  subst ez761
  have f762 := hF0.tr (F760.up (by decide))
  exact pw_return d126_6 t126 ⟨T759, f762, rfl⟩

abbrev Q49 (τ : Nat → Option Nat) (ρ : Nat → Nat → Nat) (h : pv_H) (a0 : Nat) (x1 : Int) (x2 : Int) (x3 : Int) : Option Value → pv_H → Prop := fun r h' => pv_Ty τ ρ h' ∧ pv_Fr τ [1727] h h' ∧ r = none
set_option maxHeartbeats 4000000 in
set_option maxRecDepth 20000 in
/-- AngleNet$Net.putWeight(III)V -/
theorem c49 {τ : Nat → Option Nat} {ρ : Nat → Nat → Nat} {K : Nat → Nat} {h : pv_H} {a0 : Nat} {x1 : Int} {x2 : Int} {x3 : Int} (hT : pv_Ty τ ρ h) (hA0 : τ a0 = some 2) (hX1 : 0 ≤ x1 ∧ x1 ≤ 9) (hX2 : 0 ≤ x2 ∧ x2 ≤ 9) (hX3 : 0 ≤ x3 ∧ x3 ≤ 360) : pv_C K 49 [.ref a0, .int (pv_I x1), .int (pv_I x2), .int (pv_I x3)] h (Q49 τ ρ h a0 x1 x2 x3) := by
  refine pw_entry 0 ?_
  show pv_T K 49 0 (pv_fl [some (.ref a0), some (.int (pv_I x1)), some (.int (pv_I x2)), some (.int (pv_I x3))]) [] h (Q49 τ ρ h a0 x1 x2 x3)
  have hF0 : pv_Fr τ [1727] h h := pv_Fr.rf
  refine pw_aload_n d49_0 rfl ?_
  refine pw_getR d49_1 g49_30 hT hA0 rfl rfl (fun t787 => ?_)
  have t787 : τ (ρ a0 11) = some 26 := t787
  refine pw_bipush d49_4 (by decide) ?_
  refine pw_iload_n d49_6 rfl ?_
  refine pw_imul d49_7 ?_
  refine pw_iload_n d49_8 rfl ?_
  refine pw_iadd d49_9 ?_
  refine pw_iload_n d49_10 rfl ?_
  refine pw_iast d49_11 hT t787 rfl rfl rfl (by omega) (by omega) (by omega) (by omega) (fun h788 T789 F790 E791 => ?_)
  have f792 := hF0.tr (F790.up (by decide))
  refine pw_aload_n d49_12 rfl ?_
  refine pw_getR d49_13 g49_30 T789 hA0 rfl rfl (fun t793 => ?_)
  have t793 : τ (ρ a0 11) = some 26 := t793
  refine pw_bipush d49_16 (by decide) ?_
  refine pw_iload_n d49_18 rfl ?_
  refine pw_imul d49_19 ?_
  refine pw_iload_n d49_20 rfl ?_
  refine pw_iadd d49_21 ?_
  refine pw_iload_n d49_22 rfl ?_
  refine pw_iast d49_23 T789 t793 rfl rfl rfl (by omega) (by omega) (by omega) (by omega) (fun h794 T795 F796 E797 => ?_)
  have f798 := f792.tr (F796.up (by decide))
  exact pw_return d49_24 t49 ⟨T795, f798, rfl⟩

abbrev Q57 (τ : Nat → Option Nat) (ρ : Nat → Nat → Nat) (h : pv_H) (a0 : Nat) (x1 : Int) : Option Value → pv_H → Prop := fun r h' => h = h' ∧ ∃ z : Int, r = some (.int (pv_I z)) ∧ (-2147483648) ≤ z ∧ z ≤ 2147483647
set_option maxHeartbeats 4000000 in
set_option maxRecDepth 20000 in
/-- AngleNet$Net.thirdsAt(I)I -/
theorem c57 {τ : Nat → Option Nat} {ρ : Nat → Nat → Nat} {K : Nat → Nat} {h : pv_H} {a0 : Nat} {x1 : Int} (hT : pv_Ty τ ρ h) (hA0 : τ a0 = some 2) (hX1 : (-2147483648) ≤ x1 ∧ x1 ≤ 2147483647) : pv_C K 57 [.ref a0, .int (pv_I x1)] h (Q57 τ ρ h a0 x1) := by
  refine pw_entry 2 ?_
  show pv_T K 57 0 (pv_fl [some (.ref a0), some (.int (pv_I x1)), none, none]) [] h (Q57 τ ρ h a0 x1)
  have L4 : ∀ (nn : Nat) (xL2_4 xL3_4 : Int), ((-2147483648) ≤ x1 ∧ x1 ≤ 2147483647) → ((-2147483648) ≤ xL2_4 ∧ xL2_4 ≤ 2147483647) → (0 ≤ xL3_4 ∧ xL3_4 ≤ 18) → 18 - xL3_4 < nn → pv_T K 57 4 (pv_fl [some (.ref a0), some (.int (pv_I x1)), some (.int (pv_I xL2_4)), some (.int (pv_I xL3_4))]) [] h (Q57 τ ρ h a0 x1) := by
    intro nn
    induction nn with
    | zero => intro xL2_4 xL3_4 rL1_4 rL2_4 rL3_4 hm; exfalso; omega
    | succ nn ih4 =>
      intro xL2_4 xL3_4 rL1_4 rL2_4 rL3_4 hm4
      have J27 : ∀ (xS0_27 : Int) (o2_27 : Option Value), ((-2147483648) ≤ x1 ∧ x1 ≤ 2147483647) → (0 ≤ xL3_4 ∧ xL3_4 ≤ 17) → (0 ≤ xS0_27 ∧ xS0_27 ≤ 1) → ((-2147483648) ≤ xL2_4 ∧ xL2_4 ≤ 2147483647) → pv_T K 57 27 (pv_fl [some (.ref a0), some (.int (pv_I x1)), o2_27, some (.int (pv_I xL3_4))]) [.int (pv_I xS0_27), .int (pv_I xL2_4)] h (Q57 τ ρ h a0 x1) := by
        intro xS0_27 o2_27 rL1_27 rL3_27 rS0_27 rS1_27
        refine pw_iadd d57_27 ?_
        refine pw_any (fun z1207 hz1207 ez1207 => ?_)
        refine pw_istore_n d57_28 m57 rfl rfl ?_
        refine pw_iinc d57_29 m57 rfl rfl rfl ?_
        refine pw_goto d57_32 rfl ?_
        exact ih4 (z1207) ((xL3_4 + 1)) (by omega) (by omega) (by omega) (by omega)
      refine pw_iload_n d57_4 rfl ?_
      refine pw_aload_n d57_5 rfl ?_
      refine pw_getI d57_6 g57_45 hT hA0 rfl rfl (fun u1208 vu1208 => ?_)
      refine pw_icmp_ge d57_9 rfl (by omega) (by omega) (fun c1209 => ?_) (fun c1209 => ?_)
      · refine pw_iload_n d57_35 rfl ?_
        exact pw_ireturn d57_36 t57 ⟨rfl, xL2_4, rfl, (by omega), (by omega)⟩
      · refine pw_iload_n d57_12 rfl ?_
        refine pw_aload_n d57_13 rfl ?_
        refine pw_iload_n d57_14 rfl ?_
        refine pw_iload_n d57_15 rfl ?_
        refine pw_callV2 d57_16 k57_90 hT hA0 rfl rfl rfl (c58 (τ := τ) (ρ := ρ) hT hA0 (by omega) (by omega)) (fun r1210 h1211 q1212 => ?_)
        obtain ⟨eh1211, z1215, ez1215, lz1215, uz1215⟩ := q1212
        subst eh1211
        subst ez1215
        refine pw_if_eq d57_19 rfl (by omega) (fun c1216 => ?_) (fun c1216 => ?_)
        · refine pw_iconst d57_26 ?_
          exact J27 (0) _ (by omega) (by omega) (by omega) (by omega)
        · refine pw_iconst d57_22 ?_
          refine pw_goto d57_23 rfl ?_
          exact J27 (1) _ (by omega) (by omega) (by omega) (by omega)
  refine pw_iconst d57_0 ?_
  refine pw_istore_n d57_1 m57 rfl rfl ?_
  refine pw_iconst d57_2 ?_
  refine pw_istore_n d57_3 m57 rfl rfl ?_
  exact L4 _ (0) (0) (by omega) (by omega) (by omega) (pv_mu _)

abbrev Q59 (τ : Nat → Option Nat) (ρ : Nat → Nat → Nat) (h : pv_H) (a0 : Nat) (x1 : Int) : Option Value → pv_H → Prop := fun r h' => h = h' ∧ ∃ z : Int, r = some (.int (pv_I z)) ∧ (-2147483648) ≤ z ∧ z ≤ 2147483647
set_option maxHeartbeats 4000000 in
set_option maxRecDepth 20000 in
/-- AngleNet$Net.sidesAt(I)I -/
theorem c59 {τ : Nat → Option Nat} {ρ : Nat → Nat → Nat} {K : Nat → Nat} {h : pv_H} {a0 : Nat} {x1 : Int} (hT : pv_Ty τ ρ h) (hA0 : τ a0 = some 2) (hX1 : (-2147483648) ≤ x1 ∧ x1 ≤ 2147483647) : pv_C K 59 [.ref a0, .int (pv_I x1)] h (Q59 τ ρ h a0 x1) := by
  refine pw_entry 2 ?_
  show pv_T K 59 0 (pv_fl [some (.ref a0), some (.int (pv_I x1)), none, none]) [] h (Q59 τ ρ h a0 x1)
  have L4 : ∀ (nn : Nat) (xL2_4 xL3_4 : Int), ((-2147483648) ≤ x1 ∧ x1 ≤ 2147483647) → ((-2147483648) ≤ xL2_4 ∧ xL2_4 ≤ 2147483647) → (0 ≤ xL3_4 ∧ xL3_4 ≤ 10) → 10 - xL3_4 < nn → pv_T K 59 4 (pv_fl [some (.ref a0), some (.int (pv_I x1)), some (.int (pv_I xL2_4)), some (.int (pv_I xL3_4))]) [] h (Q59 τ ρ h a0 x1) := by
    intro nn
    induction nn with
    | zero => intro xL2_4 xL3_4 rL1_4 rL2_4 rL3_4 hm; exfalso; omega
    | succ nn ih4 =>
      intro xL2_4 xL3_4 rL1_4 rL2_4 rL3_4 hm4
      have J27 : ∀ (xS0_27 : Int) (o2_27 : Option Value), ((-2147483648) ≤ x1 ∧ x1 ≤ 2147483647) → (0 ≤ xL3_4 ∧ xL3_4 ≤ 9) → (0 ≤ xS0_27 ∧ xS0_27 ≤ 1) → ((-2147483648) ≤ xL2_4 ∧ xL2_4 ≤ 2147483647) → pv_T K 59 27 (pv_fl [some (.ref a0), some (.int (pv_I x1)), o2_27, some (.int (pv_I xL3_4))]) [.int (pv_I xS0_27), .int (pv_I xL2_4)] h (Q59 τ ρ h a0 x1) := by
        intro xS0_27 o2_27 rL1_27 rL3_27 rS0_27 rS1_27
        refine pw_iadd d59_27 ?_
        refine pw_any (fun z1625 hz1625 ez1625 => ?_)
        refine pw_istore_n d59_28 m59 rfl rfl ?_
        refine pw_iinc d59_29 m59 rfl rfl rfl ?_
        refine pw_goto d59_32 rfl ?_
        exact ih4 (z1625) ((xL3_4 + 1)) (by omega) (by omega) (by omega) (by omega)
      refine pw_iload_n d59_4 rfl ?_
      refine pw_aload_n d59_5 rfl ?_
      refine pw_getI d59_6 g59_41 hT hA0 rfl rfl (fun u1626 vu1626 => ?_)
      refine pw_icmp_ge d59_9 rfl (by omega) (by omega) (fun c1627 => ?_) (fun c1627 => ?_)
      · refine pw_iload_n d59_35 rfl ?_
        exact pw_ireturn d59_36 t59 ⟨rfl, xL2_4, rfl, (by omega), (by omega)⟩
      · refine pw_iload_n d59_12 rfl ?_
        refine pw_aload_n d59_13 rfl ?_
        refine pw_iload_n d59_14 rfl ?_
        refine pw_iload_n d59_15 rfl ?_
        refine pw_callV2 d59_16 k59_94 hT hA0 rfl rfl rfl (c47 (τ := τ) (ρ := ρ) hT hA0 (by omega) (by omega)) (fun r1628 h1629 q1630 => ?_)
        obtain ⟨eh1629, z1633, ez1633, lz1633, uz1633, pz1633_0⟩ := q1630
        subst eh1629
        subst ez1633
        refine pw_if_eq d59_19 rfl (by omega) (fun c1634 => ?_) (fun c1634 => ?_)
        · refine pw_iconst d59_26 ?_
          exact J27 (0) _ (by omega) (by omega) (by omega) (by omega)
        · refine pw_iconst d59_22 ?_
          refine pw_goto d59_23 rfl ?_
          exact J27 (1) _ (by omega) (by omega) (by omega) (by omega)
  refine pw_iconst d59_0 ?_
  refine pw_istore_n d59_1 m59 rfl rfl ?_
  refine pw_iconst d59_2 ?_
  refine pw_istore_n d59_3 m59 rfl rfl ?_
  exact L4 _ (0) (0) (by omega) (by omega) (by omega) (pv_mu _)

abbrev Q68 (τ : Nat → Option Nat) (ρ : Nat → Nat → Nat) (h : pv_H) (a0 : Nat) : Option Value → pv_H → Prop := fun r h' => h = h' ∧ ∃ z : Int, r = some (.int (pv_I z)) ∧ (-2147483648) ≤ z ∧ z ≤ 2147483647
set_option maxHeartbeats 4000000 in
set_option maxRecDepth 20000 in
/-- AngleNet$Net.sideCount()I -/
theorem c68 {τ : Nat → Option Nat} {ρ : Nat → Nat → Nat} {K : Nat → Nat} {h : pv_H} {a0 : Nat} (hT : pv_Ty τ ρ h) (hA0 : τ a0 = some 2) : pv_C K 68 [.ref a0] h (Q68 τ ρ h a0) := by
  refine pw_entry 2 ?_
  show pv_T K 68 0 (pv_fl [some (.ref a0), none, none]) [] h (Q68 τ ρ h a0)
  have L4 : ∀ (nn : Nat) (xL1_4 xL2_4 : Int), ((-2147483648) ≤ xL1_4 ∧ xL1_4 ≤ 2147483647) → (0 ≤ xL2_4 ∧ xL2_4 ≤ 10) → 10 - xL2_4 < nn → pv_T K 68 4 (pv_fl [some (.ref a0), some (.int (pv_I xL1_4)), some (.int (pv_I xL2_4))]) [] h (Q68 τ ρ h a0) := by
    intro nn
    induction nn with
    | zero => intro xL1_4 xL2_4 rL1_4 rL2_4 hm; exfalso; omega
    | succ nn ih4 =>
      intro xL1_4 xL2_4 rL1_4 rL2_4 hm4
      refine pw_iload_n d68_4 rfl ?_
      refine pw_aload_n d68_5 rfl ?_
      refine pw_getI d68_6 g68_41 hT hA0 rfl rfl (fun u1733 vu1733 => ?_)
      refine pw_icmp_ge d68_9 rfl (by omega) (by omega) (fun c1734 => ?_) (fun c1734 => ?_)
      · refine pw_iload_n d68_26 rfl ?_
        refine pw_iconst d68_27 ?_
        refine pw_idivU d68_28 (by omega) (by omega) (fun z1735 hz1735 ez1735 => ?_)
        exact pw_ireturn d68_29 t68 ⟨rfl, z1735, rfl, (by omega), (by omega)⟩
      · refine pw_iload_n d68_12 rfl ?_
        refine pw_aload_n d68_13 rfl ?_
        refine pw_iload_n d68_14 rfl ?_
        refine pw_callV1 d68_15 k68_97 hT hA0 rfl rfl rfl (c59 (τ := τ) (ρ := ρ) hT hA0 (by omega)) (fun r1736 h1737 q1738 => ?_)
        obtain ⟨eh1737, z1741, ez1741, lz1741, uz1741⟩ := q1738
        subst eh1737
        subst ez1741
        refine pw_iadd d68_18 ?_
        refine pw_any (fun z1742 hz1742 ez1742 => ?_)
        refine pw_istore_n d68_19 m68 rfl rfl ?_
        refine pw_iinc d68_20 m68 rfl rfl rfl ?_
        refine pw_goto d68_23 rfl ?_
        exact ih4 (z1742) ((xL2_4 + 1)) (by omega) (by omega) (by omega)
  refine pw_iconst d68_0 ?_
  refine pw_istore_n d68_1 m68 rfl rfl ?_
  refine pw_iconst d68_2 ?_
  refine pw_istore_n d68_3 m68 rfl rfl ?_
  exact L4 _ (0) (0) (by omega) (by omega) (pv_mu _)

abbrev Q62 (τ : Nat → Option Nat) (ρ : Nat → Nat → Nat) (h : pv_H) (a0 : Nat) (x1 : Int) : Option Value → pv_H → Prop := fun r h' => h = h' ∧ ∃ z : Int, r = some (.int (pv_I z)) ∧ (-1) ≤ z ∧ z ≤ 99
set_option maxHeartbeats 4000000 in
set_option maxRecDepth 20000 in
/-- AngleNet$Net.sideNumbered(I)I -/
theorem c62 {τ : Nat → Option Nat} {ρ : Nat → Nat → Nat} {K : Nat → Nat} {h : pv_H} {a0 : Nat} {x1 : Int} (hT : pv_Ty τ ρ h) (hA0 : τ a0 = some 2) (hX1 : (-2147483648) ≤ x1 ∧ x1 ≤ 2147483647) : pv_C K 62 [.ref a0, .int (pv_I x1)] h (Q62 τ ρ h a0 x1) := by
  refine pw_entry 3 ?_
  show pv_T K 62 0 (pv_fl [some (.ref a0), some (.int (pv_I x1)), none, none, none]) [] h (Q62 τ ρ h a0 x1)
  have L4 : ∀ (nn : Nat) (xL2_4 xL3_4 : Int) (o4_4 : Option Value), ((-2147483648) ≤ x1 ∧ x1 ≤ 2147483647) → ((-2147483648) ≤ xL2_4 ∧ xL2_4 ≤ 2147483647) → (0 ≤ xL3_4 ∧ xL3_4 ≤ 10) → 10 - xL3_4 < nn → pv_T K 62 4 (pv_fl [some (.ref a0), some (.int (pv_I x1)), some (.int (pv_I xL2_4)), some (.int (pv_I xL3_4)), o4_4]) [] h (Q62 τ ρ h a0 x1) := by
    intro nn
    induction nn with
    | zero => intro xL2_4 xL3_4 o4_4 rL1_4 rL2_4 rL3_4 hm; exfalso; omega
    | succ nn ih4 =>
      intro xL2_4 xL3_4 o4_4 rL1_4 rL2_4 rL3_4 hm4
      have L17 : ∀ (nn : Nat) (xL2_17 xL4_17 : Int), ((-2147483648) ≤ x1 ∧ x1 ≤ 2147483647) → ((-2147483648) ≤ xL2_17 ∧ xL2_17 ≤ 2147483647) → (0 ≤ xL3_4 ∧ xL3_4 ≤ 9) → (1 ≤ xL4_17 ∧ xL4_17 ≤ 10) → 10 - xL4_17 < nn → pv_T K 62 17 (pv_fl [some (.ref a0), some (.int (pv_I x1)), some (.int (pv_I xL2_17)), some (.int (pv_I xL3_4)), some (.int (pv_I xL4_17))]) [] h (Q62 τ ρ h a0 x1) := by
        intro nn
        induction nn with
        | zero => intro xL2_17 xL4_17 rL1_17 rL2_17 rL3_17 rL4_17 hm; exfalso; omega
        | succ nn ih17 =>
          intro xL2_17 xL4_17 rL1_17 rL2_17 rL3_17 rL4_17 hm17
          have J52 : ∀ (xL2_52 : Int), ((-2147483648) ≤ x1 ∧ x1 ≤ 2147483647) → ((-2147483648) ≤ xL2_52 ∧ xL2_52 ≤ 2147483647) → (0 ≤ xL3_4 ∧ xL3_4 ≤ 9) → (1 ≤ xL4_17 ∧ xL4_17 ≤ 9) → pv_T K 62 52 (pv_fl [some (.ref a0), some (.int (pv_I x1)), some (.int (pv_I xL2_52)), some (.int (pv_I xL3_4)), some (.int (pv_I xL4_17))]) [] h (Q62 τ ρ h a0 x1) := by
            intro xL2_52 rL1_52 rL2_52 rL3_52 rL4_52
            refine pw_iinc d62_52 m62 rfl rfl rfl ?_
            refine pw_goto d62_55 rfl ?_
            exact ih17 (xL2_52) ((xL4_17 + 1)) (by omega) (by omega) (by omega) (by omega) (by omega)
          refine pw_iload d62_17 rfl ?_
          refine pw_aload_n d62_19 rfl ?_
          refine pw_getI d62_20 g62_41 hT hA0 rfl rfl (fun u2372 vu2372 => ?_)
          refine pw_icmp_ge d62_23 rfl (by omega) (by omega) (fun c2373 => ?_) (fun c2373 => ?_)
          · refine pw_iinc d62_58 m62 rfl rfl rfl ?_
            refine pw_goto d62_61 rfl ?_
            exact ih4 (xL2_17) ((xL3_4 + 1)) _ (by omega) (by omega) (by omega) (by omega)
          · refine pw_aload_n d62_26 rfl ?_
            refine pw_iload_n d62_27 rfl ?_
            refine pw_iload d62_28 rfl ?_
            refine pw_callV2 d62_30 k62_94 hT hA0 rfl rfl rfl (c47 (τ := τ) (ρ := ρ) hT hA0 (by omega) (by omega)) (fun r2374 h2375 q2376 => ?_)
            obtain ⟨eh2375, z2379, ez2379, lz2379, uz2379, pz2379_0⟩ := q2376
            subst eh2375
            subst ez2379
            refine pw_if_eq d62_33 rfl (by omega) (fun c2380 => ?_) (fun c2380 => ?_)
            · exact J52 (xL2_17) (by omega) (by omega) (by omega) (by omega)
            · refine pw_iload_n d62_36 rfl ?_
              refine pw_iload_n d62_37 rfl ?_
              refine pw_icmp_ne d62_38 rfl (by omega) (by omega) (fun c2381 => ?_) (fun c2381 => ?_)
              · refine pw_iincU d62_49 m62 rfl rfl rfl (fun z2382 hz2382 => ?_)
                exact J52 (z2382) (by omega) (by omega) (by omega) (by omega)
              · refine pw_bipush d62_41 (by decide) ?_
                refine pw_iload_n d62_43 rfl ?_
                refine pw_imul d62_44 ?_
                refine pw_iload d62_45 rfl ?_
                refine pw_iadd d62_47 ?_
                exact pw_ireturn d62_48 t62 ⟨rfl, ((10 * xL3_4) + xL4_17), rfl, (by omega), (by omega)⟩
      refine pw_iload_n d62_4 rfl ?_
      refine pw_aload_n d62_5 rfl ?_
      refine pw_getI d62_6 g62_41 hT hA0 rfl rfl (fun u2383 vu2383 => ?_)
      refine pw_icmp_ge d62_9 rfl (by omega) (by omega) (fun c2384 => ?_) (fun c2384 => ?_)
      · refine pw_iconst d62_64 ?_
        exact pw_ireturn d62_65 t62 ⟨rfl, (-1), rfl, (by omega), (by omega)⟩
      · refine pw_iload_n d62_12 rfl ?_
        refine pw_iconst d62_13 ?_
        refine pw_iadd d62_14 ?_
        refine pw_istore d62_15 m62 rfl rfl ?_
        exact L17 _ (xL2_4) ((xL3_4 + 1)) (by omega) (by omega) (by omega) (by omega) (pv_mu _)
  refine pw_iconst d62_0 ?_
  refine pw_istore_n d62_1 m62 rfl rfl ?_
  refine pw_iconst d62_2 ?_
  refine pw_istore_n d62_3 m62 rfl rfl ?_
  exact L4 _ (0) (0) _ (by omega) (by omega) (by omega) (pv_mu _)

abbrev Q88 (τ : Nat → Option Nat) (ρ : Nat → Nat → Nat) (h : pv_H) (a0 : Nat) (x1 : Int) (x2 : Int) (x3 : Int) : Option Value → pv_H → Prop := fun r h' => h = h' ∧ ∃ z : Int, r = some (.int (pv_I z)) ∧ (-1) ≤ z ∧ z ≤ 17
set_option maxHeartbeats 4000000 in
set_option maxRecDepth 20000 in
/-- AngleNet$Net.thirdOn(III)I -/
theorem c88 {τ : Nat → Option Nat} {ρ : Nat → Nat → Nat} {K : Nat → Nat} {h : pv_H} {a0 : Nat} {x1 : Int} {x2 : Int} {x3 : Int} (hT : pv_Ty τ ρ h) (hA0 : τ a0 = some 2) (hX1 : (-2147483648) ≤ x1 ∧ x1 ≤ 2147483647) (hX2 : (-2147483648) ≤ x2 ∧ x2 ≤ 2147483647) (hX3 : (-2147483648) ≤ x3 ∧ x3 ≤ 2147483647) : pv_C K 88 [.ref a0, .int (pv_I x1), .int (pv_I x2), .int (pv_I x3)] h (Q88 τ ρ h a0 x1 x2 x3) := by
  refine pw_entry 2 ?_
  show pv_T K 88 0 (pv_fl [some (.ref a0), some (.int (pv_I x1)), some (.int (pv_I x2)), some (.int (pv_I x3)), none, none]) [] h (Q88 τ ρ h a0 x1 x2 x3)
  have L16 : ∀ (nn : Nat) (xL4_16 xL5_16 : Int) (o1_16 o2_16 o3_16 : Option Value), ((-2147483648) ≤ xL4_16 ∧ xL4_16 ≤ 2147483647) → (0 ≤ xL5_16 ∧ xL5_16 ≤ 2147483647) → 2147483647 - xL5_16 < nn → pv_T K 88 16 (pv_fl [some (.ref a0), o1_16, o2_16, o3_16, some (.int (pv_I xL4_16)), some (.int (pv_I xL5_16))]) [] h (Q88 τ ρ h a0 x1 x2 x3) := by
    intro nn
    induction nn with
    | zero => intro xL4_16 xL5_16 o1_16 o2_16 o3_16 rL4_16 rL5_16 hm; exfalso; omega
    | succ nn ih16 =>
      intro xL4_16 xL5_16 o1_16 o2_16 o3_16 rL4_16 rL5_16 hm16
      refine pw_iload d88_16 rfl ?_
      refine pw_aload_n d88_18 rfl ?_
      refine pw_getI d88_19 g88_45 hT hA0 rfl rfl (fun u2413 vu2413 => ?_)
      refine pw_icmp_ge d88_22 rfl (by omega) (by omega) (fun c2414 => ?_) (fun c2414 => ?_)
      · refine pw_iconst d88_48 ?_
        exact pw_ireturn d88_49 t88 ⟨rfl, (-1), rfl, (by omega), (by omega)⟩
      · refine pw_aload_n d88_25 rfl ?_
        refine pw_iload d88_26 rfl ?_
        refine pw_callV1 d88_28 k88_82 hT hA0 rfl rfl rfl (c40 (τ := τ) (ρ := ρ) hT hA0 (by omega)) (fun r2415 h2416 q2417 => ?_)
        obtain ⟨eh2416, z2420, ez2420, lz2420, uz2420⟩ := q2417
        subst eh2416
        subst ez2420
        refine pw_iload d88_31 rfl ?_
        refine pw_iand d88_33 (fun z2421 hz2421 ez2421 => ?_)
        refine pw_iload d88_34 rfl ?_
        refine pw_icmp_ne d88_36 rfl (by omega) (by omega) (fun c2422 => ?_) (fun c2422 => ?_)
        · refine pw_iinc d88_42 m88 rfl rfl rfl ?_
          refine pw_goto d88_45 rfl ?_
          exact ih16 (xL4_16) ((xL5_16 + 1)) _ _ _ (by omega) (by omega) (by omega)
        · refine pw_iload d88_39 rfl ?_
          exact pw_ireturn d88_41 t88 ⟨rfl, xL5_16, rfl, (by omega), (by omega)⟩
  refine pw_iconst d88_0 ?_
  refine pw_iload_n d88_1 rfl ?_
  refine pw_ishl d88_2 (fun z2423 hz2423 ez2423 => ?_)
  refine pw_iconst d88_3 ?_
  refine pw_iload_n d88_4 rfl ?_
  refine pw_ishl d88_5 (fun z2424 hz2424 ez2424 => ?_)
  refine pw_ior d88_6 (fun z2425 hz2425 ez2425 => ?_)
  refine pw_istore d88_7 m88 rfl rfl ?_
  refine pw_iconst d88_9 ?_
  refine pw_iload_n d88_10 rfl ?_
  refine pw_mmax d88_11 k88_100 rfl (by omega) (by omega) (fun z2426 pz2426 hz2426 => ?_)
  refine pw_istore d88_14 m88 rfl rfl ?_
  exact L16 _ (z2425) (z2426) _ _ _ (by omega) (by omega) (pv_mu _)

abbrev Q76 (τ : Nat → Option Nat) (ρ : Nat → Nat → Nat) (h : pv_H) (x0 : Int) : Option Value → pv_H → Prop := fun r h' => h = h' ∧ ∃ z : Int, r = some (.int (pv_I z)) ∧ 0 ≤ z ∧ z ≤ 32
set_option maxHeartbeats 4000000 in
set_option maxRecDepth 20000 in
/-- AngleNet.lowestBit(I)I -/
theorem c76 {τ : Nat → Option Nat} {ρ : Nat → Nat → Nat} {K : Nat → Nat} {h : pv_H} {x0 : Int} (hX0 : (-2147483648) ≤ x0 ∧ x0 ≤ 2147483647) : pv_C K 76 [.int (pv_I x0)] h (Q76 τ ρ h x0) := by
  refine pw_entry 1 ?_
  show pv_T K 76 0 (pv_fl [some (.int (pv_I x0)), none]) [] h (Q76 τ ρ h x0)
  have L2 : ∀ (nn : Nat) (xL1_2 : Int), ((-2147483648) ≤ x0 ∧ x0 ≤ 2147483647) → (0 ≤ xL1_2 ∧ xL1_2 ≤ 32) → 32 - xL1_2 < nn → pv_T K 76 2 (pv_fl [some (.int (pv_I x0)), some (.int (pv_I xL1_2))]) [] h (Q76 τ ρ h x0) := by
    intro nn
    induction nn with
    | zero => intro xL1_2 rL0_2 rL1_2 hm; exfalso; omega
    | succ nn ih2 =>
      intro xL1_2 rL0_2 rL1_2 hm2
      refine pw_iload_n d76_2 rfl ?_
      refine pw_bipush d76_3 (by decide) ?_
      refine pw_icmp_ge d76_5 rfl (by omega) (by omega) (fun c2487 => ?_) (fun c2487 => ?_)
      · refine pw_bipush d76_24 (by decide) ?_
        exact pw_ireturn d76_26 t76 ⟨rfl, 32, rfl, (by omega), (by omega)⟩
      · refine pw_iload_n d76_8 rfl ?_
        refine pw_iload_n d76_9 rfl ?_
        refine pw_ishr d76_10 (fun z2488 hz2488 ez2488 => ?_)
        refine pw_iconst d76_11 ?_
        refine pw_iand d76_12 (fun z2489 hz2489 ez2489 => ?_)
        refine pw_if_eq d76_13 rfl (by omega) (fun c2490 => ?_) (fun c2490 => ?_)
        · refine pw_iinc d76_18 m76 rfl rfl rfl ?_
          refine pw_goto d76_21 rfl ?_
          exact ih2 ((xL1_2 + 1)) (by omega) (by omega) (by omega)
        · refine pw_iload_n d76_16 rfl ?_
          exact pw_ireturn d76_17 t76 ⟨rfl, xL1_2, rfl, (by omega), (by omega)⟩
  refine pw_iconst d76_0 ?_
  refine pw_istore_n d76_1 m76 rfl rfl ?_
  exact L2 _ (0) (by omega) (by omega) (pv_mu _)

abbrev Q102 (τ : Nat → Option Nat) (ρ : Nat → Nat → Nat) (h : pv_H) (x0 : Int) (x1 : Int) : Option Value → pv_H → Prop := fun r h' => h = h' ∧ ∃ z : Int, r = some (.int (pv_I z)) ∧ 0 ≤ z ∧ z ≤ 1
set_option maxHeartbeats 4000000 in
set_option maxRecDepth 20000 in
/-- AngleNet.isLesser(II)Z -/
theorem c102 {τ : Nat → Option Nat} {ρ : Nat → Nat → Nat} {K : Nat → Nat} {h : pv_H} {x0 : Int} {x1 : Int} (hX0 : (-2147483648) ≤ x0 ∧ x0 ≤ 2147483647) (hX1 : (-2147483648) ≤ x1 ∧ x1 ≤ 2147483647) : pv_C K 102 [.int (pv_I x0), .int (pv_I x1)] h (Q102 τ ρ h x0 x1) := by
  refine pw_entry 1 ?_
  show pv_T K 102 0 (pv_fl [some (.int (pv_I x0)), some (.int (pv_I x1)), none]) [] h (Q102 τ ρ h x0 x1)
  refine pw_iload_n d102_0 rfl ?_
  refine pw_callS1 d102_1 k102_367 rfl rfl (c67 (τ := τ) (ρ := ρ) (by omega)) (fun r2523 h2524 q2525 => ?_)
  obtain ⟨eh2524, z2528, ez2528, lz2528, uz2528⟩ := q2525
  subst eh2524
  subst ez2528
  refine pw_iload_n d102_4 rfl ?_
  refine pw_callS1 d102_5 k102_367 rfl rfl (c67 (τ := τ) (ρ := ρ) (by omega)) (fun r2529 h2530 q2531 => ?_)
  obtain ⟨eh2530, z2534, ez2534, lz2534, uz2534⟩ := q2531
  subst eh2530
  subst ez2534
  refine pw_isub d102_8 ?_
  refine pw_any (fun z2535 hz2535 ez2535 => ?_)
  refine pw_istore_n d102_9 m102 rfl rfl ?_
  refine pw_iload_n d102_10 rfl ?_
  refine pw_if_lt d102_11 rfl (by omega) (fun c2536 => ?_) (fun c2536 => ?_)
  · refine pw_iconst d102_23 ?_
    refine pw_goto d102_24 rfl ?_
    exact pw_zreturn d102_28 t102 (by omega) ⟨rfl, 1, rfl, (by omega), (by omega)⟩
  · refine pw_iload_n d102_14 rfl ?_
    refine pw_if_ne d102_15 rfl (by omega) (fun c2537 => ?_) (fun c2537 => ?_)
    · refine pw_iconst d102_27 ?_
      exact pw_zreturn d102_28 t102 (by omega) ⟨rfl, 0, rfl, (by omega), (by omega)⟩
    · refine pw_iload_n d102_18 rfl ?_
      refine pw_iload_n d102_19 rfl ?_
      refine pw_icmp_ge d102_20 rfl (by omega) (by omega) (fun c2538 => ?_) (fun c2538 => ?_)
      · refine pw_iconst d102_27 ?_
        exact pw_zreturn d102_28 t102 (by omega) ⟨rfl, 0, rfl, (by omega), (by omega)⟩
      · refine pw_iconst d102_23 ?_
        refine pw_goto d102_24 rfl ?_
        exact pw_zreturn d102_28 t102 (by omega) ⟨rfl, 1, rfl, (by omega), (by omega)⟩

abbrev Q117 (τ : Nat → Option Nat) (ρ : Nat → Nat → Nat) (h : pv_H) (x0 : Int) : Option Value → pv_H → Prop := fun r h' => h = h' ∧ ∃ z : Int, r = some (.int (pv_I z)) ∧ (-1) ≤ z ∧ z ≤ 1
set_option maxHeartbeats 4000000 in
set_option maxRecDepth 20000 in
/-- AngleNet.signOf(J)I -/
theorem c117 {τ : Nat → Option Nat} {ρ : Nat → Nat → Nat} {K : Nat → Nat} {h : pv_H} {x0 : Int} (hX0 : (-9223372036854775808) ≤ x0 ∧ x0 ≤ 9223372036854775807) : pv_C K 117 [.long (pv_J x0)] h (Q117 τ ρ h x0) := by
  refine pw_entry 0 ?_
  show pv_T K 117 0 (pv_fl [some (.long (pv_J x0)), none]) [] h (Q117 τ ρ h x0)
  refine pw_lload_n d117_0 rfl ?_
  refine pw_lconst (z := 0) d117_1 (by decide) ?_
  refine pw_lcmp d117_2 (by omega) (by omega) (fun z2547 ez2547 => ?_)
  refine pw_if_ne d117_3 rfl (by omega) (fun c2548 => ?_) (fun c2548 => ?_)
  · refine pw_lload_n d117_8 rfl ?_
    refine pw_lconst (z := 0) d117_9 (by decide) ?_
    refine pw_lcmp d117_10 (by omega) (by omega) (fun z2549 ez2549 => ?_)
    refine pw_if_le d117_11 rfl (by omega) (fun c2550 => ?_) (fun c2550 => ?_)
    · refine pw_iconst d117_18 ?_
      exact pw_ireturn d117_19 t117 ⟨rfl, (-1), rfl, (by omega), (by omega)⟩
    · refine pw_iconst d117_14 ?_
      refine pw_goto d117_15 rfl ?_
      exact pw_ireturn d117_19 t117 ⟨rfl, 1, rfl, (by omega), (by omega)⟩
  · refine pw_iconst d117_6 ?_
    exact pw_ireturn d117_7 t117 ⟨rfl, 0, rfl, (by omega), (by omega)⟩

abbrev Q90 (τ : Nat → Option Nat) (ρ : Nat → Nat → Nat) (h : pv_H) (a0 : Nat) (x1 : Int) (x2 : Int) (x3 : Int) : Option Value → pv_H → Prop := fun r h' => h = h' ∧ ∃ z : Int, r = some (.int (pv_I z)) ∧ 0 ≤ z ∧ z ≤ 32
set_option maxHeartbeats 4000000 in
set_option maxRecDepth 20000 in
/-- AngleNet$Net.otherPost(III)I -/
theorem c90 {τ : Nat → Option Nat} {ρ : Nat → Nat → Nat} {K : Nat → Nat} {h : pv_H} {a0 : Nat} {x1 : Int} {x2 : Int} {x3 : Int} (hT : pv_Ty τ ρ h) (hA0 : τ a0 = some 2) (hX1 : 0 ≤ x1 ∧ x1 ≤ 17) (hX2 : (-2147483648) ≤ x2 ∧ x2 ≤ 2147483647) (hX3 : (-2147483648) ≤ x3 ∧ x3 ≤ 2147483647) : pv_C K 90 [.ref a0, .int (pv_I x1), .int (pv_I x2), .int (pv_I x3)] h (Q90 τ ρ h a0 x1 x2 x3) := by
  refine pw_entry 0 ?_
  show pv_T K 90 0 (pv_fl [some (.ref a0), some (.int (pv_I x1)), some (.int (pv_I x2)), some (.int (pv_I x3))]) [] h (Q90 τ ρ h a0 x1 x2 x3)
  refine pw_aload_n d90_0 rfl ?_
  refine pw_iload_n d90_1 rfl ?_
  refine pw_callV1 d90_2 k90_82 hT hA0 rfl rfl rfl (c40 (τ := τ) (ρ := ρ) hT hA0 (by omega)) (fun r2585 h2586 q2587 => ?_)
  obtain ⟨eh2586, z2590, ez2590, lz2590, uz2590⟩ := q2587
  subst eh2586
  subst ez2590
  refine pw_iconst d90_5 ?_
  refine pw_iload_n d90_6 rfl ?_
  refine pw_ishl d90_7 (fun z2591 hz2591 ez2591 => ?_)
  refine pw_iconst d90_8 ?_
  refine pw_iload_n d90_9 rfl ?_
  refine pw_ishl d90_10 (fun z2592 hz2592 ez2592 => ?_)
  refine pw_ior d90_11 (fun z2593 hz2593 ez2593 => ?_)
  refine pw_iconst d90_12 ?_
  refine pw_ixor d90_13 (fun z2594 hz2594 ez2594 => ?_)
  refine pw_iand d90_14 (fun z2595 hz2595 ez2595 => ?_)
  refine pw_callS1 d90_15 k90_106 rfl rfl (c76 (τ := τ) (ρ := ρ) (by omega)) (fun r2596 h2597 q2598 => ?_)
  obtain ⟨eh2597, z2601, ez2601, lz2601, uz2601⟩ := q2598
  subst eh2597
  subst ez2601
  exact pw_ireturn d90_18 t90 ⟨rfl, z2601, rfl, (by omega), (by omega)⟩

abbrev Q172 (τ : Nat → Option Nat) (ρ : Nat → Nat → Nat) (h : pv_H) (a0 : Nat) : Option Value → pv_H → Prop := fun r h' => h = h' ∧ ∃ z : Int, r = some (.int (pv_I z)) ∧ (-2147483648) ≤ z ∧ z ≤ 2147483647
set_option maxHeartbeats 4000000 in
set_option maxRecDepth 20000 in
/-- AngleNet$Net.placedPosts()I -/
theorem c172 {τ : Nat → Option Nat} {ρ : Nat → Nat → Nat} {K : Nat → Nat} {h : pv_H} {a0 : Nat} (hT : pv_Ty τ ρ h) (hA0 : τ a0 = some 2) : pv_C K 172 [.ref a0] h (Q172 τ ρ h a0) := by
  refine pw_entry 2 ?_
  show pv_T K 172 0 (pv_fl [some (.ref a0), none, none]) [] h (Q172 τ ρ h a0)
  have L4 : ∀ (nn : Nat) (xL1_4 xL2_4 : Int), ((-2147483648) ≤ xL1_4 ∧ xL1_4 ≤ 2147483647) → (0 ≤ xL2_4 ∧ xL2_4 ≤ 10) → 10 - xL2_4 < nn → pv_T K 172 4 (pv_fl [some (.ref a0), some (.int (pv_I xL1_4)), some (.int (pv_I xL2_4))]) [] h (Q172 τ ρ h a0) := by
    intro nn
    induction nn with
    | zero => intro xL1_4 xL2_4 rL1_4 rL2_4 hm; exfalso; omega
    | succ nn ih4 =>
      intro xL1_4 xL2_4 rL1_4 rL2_4 hm4
      have J30 : ∀ (xS0_30 : Int) (o1_30 : Option Value), (0 ≤ xL2_4 ∧ xL2_4 ≤ 9) → ((-2147483648) ≤ xS0_30 ∧ xS0_30 ≤ 2147483647) → ((-2147483648) ≤ xL1_4 ∧ xL1_4 ≤ 2147483647) → pv_T K 172 30 (pv_fl [some (.ref a0), o1_30, some (.int (pv_I xL2_4))]) [.int (pv_I xS0_30), .int (pv_I xL1_4)] h (Q172 τ ρ h a0) := by
        intro xS0_30 o1_30 rL2_30 rS0_30 rS1_30
        refine pw_ior d172_30 (fun z2671 hz2671 ez2671 => ?_)
        refine pw_istore_n d172_31 m172 rfl rfl ?_
        refine pw_iinc d172_32 m172 rfl rfl rfl ?_
        refine pw_goto d172_35 rfl ?_
        exact ih4 (z2671) ((xL2_4 + 1)) (by omega) (by omega) (by omega)
      refine pw_iload_n d172_4 rfl ?_
      refine pw_aload_n d172_5 rfl ?_
      refine pw_getI d172_6 g172_41 hT hA0 rfl rfl (fun u2672 vu2672 => ?_)
      refine pw_icmp_ge d172_9 rfl (by omega) (by omega) (fun c2673 => ?_) (fun c2673 => ?_)
      · refine pw_iload_n d172_38 rfl ?_
        exact pw_ireturn d172_39 t172 ⟨rfl, xL1_4, rfl, (by omega), (by omega)⟩
      · refine pw_iload_n d172_12 rfl ?_
        refine pw_aload_n d172_13 rfl ?_
        refine pw_getR d172_14 g172_21 hT hA0 rfl rfl (fun t2674 => ?_)
        have t2674 : τ (ρ a0 8) = some 23 := t2674
        refine pw_iload_n d172_17 rfl ?_
        refine pw_iald d172_18 hT t2674 rfl rfl (by omega) (by omega) (fun u2675 vu2675 => ?_)
        refine pw_iconst d172_19 ?_
        refine pw_icmp_eq d172_20 rfl (by omega) (by omega) (fun c2676 => ?_) (fun c2676 => ?_)
        · refine pw_iconst d172_29 ?_
          exact J30 (0) _ (by omega) (by omega) (by omega)
        · refine pw_iconst d172_23 ?_
          refine pw_iload_n d172_24 rfl ?_
          refine pw_ishl d172_25 (fun z2677 hz2677 ez2677 => ?_)
          refine pw_goto d172_26 rfl ?_
          exact J30 (z2677) _ (by omega) (by omega) (by omega)
  refine pw_iconst d172_0 ?_
  refine pw_istore_n d172_1 m172 rfl rfl ?_
  refine pw_iconst d172_2 ?_
  refine pw_istore_n d172_3 m172 rfl rfl ?_
  exact L4 _ (0) (0) (by omega) (by omega) (pv_mu _)

abbrev Q14 (τ : Nat → Option Nat) (ρ : Nat → Nat → Nat) (h : pv_H) (a0 : Nat) (x1 : Int) : Option Value → pv_H → Prop := fun r h' => pv_Ty τ ρ h' ∧ pv_Fr τ [1471] h h' ∧ r = none
set_option maxHeartbeats 4000000 in
set_option maxRecDepth 20000 in
/-- java/util/Arrays.fill([II)V -/
theorem c14 {τ : Nat → Option Nat} {ρ : Nat → Nat → Nat} {K : Nat → Nat} {h : pv_H} {a0 : Nat} {x1 : Int} (hT : pv_Ty τ ρ h) (hA0 : τ a0 = some 22) (hX1 : (-1) ≤ x1 ∧ x1 ≤ 0) : pv_C K 14 [.ref a0, .int (pv_I x1)] h (Q14 τ ρ h a0 x1) := by
  refine pw_entry 2 ?_
  show pv_T K 14 0 (pv_fl [some (.ref a0), some (.int (pv_I x1)), none, none]) [] h (Q14 τ ρ h a0 x1)
  have hF0 : pv_Fr τ [1471] h h := pv_Fr.rf
  have L5 : ∀ (nn : Nat) (h_5 : pv_H) (xL2_5 xL3_5 : Int), (pv_Ty τ ρ h_5) → (pv_Fr τ [1471] h h_5) → ((-1) ≤ x1 ∧ x1 ≤ 0) → (0 ≤ xL2_5 ∧ xL2_5 ≤ 10) → (10 ≤ xL3_5 ∧ xL3_5 ≤ 10) → 10 - xL2_5 < nn → pv_T K 14 5 (pv_fl [some (.ref a0), some (.int (pv_I x1)), some (.int (pv_I xL2_5)), some (.int (pv_I xL3_5))]) [] h_5 (Q14 τ ρ h a0 x1) := by
    intro nn
    induction nn with
    | zero => intro h_5 xL2_5 xL3_5 hT_5 hF_5 rL1_5 rL2_5 rL3_5 hm; exfalso; omega
    | succ nn ih5 =>
      intro h_5 xL2_5 xL3_5 hT_5 hF_5 rL1_5 rL2_5 rL3_5 hm5
      refine pw_iload_n d14_5 rfl ?_
      refine pw_iload_n d14_6 rfl ?_
      refine pw_icmp_ge d14_7 rfl (by omega) (by omega) (fun c2738 => ?_) (fun c2738 => ?_)
      · exact pw_return d14_20 t14 ⟨hT_5, hF_5, rfl⟩
      · refine pw_aload_n d14_10 rfl ?_
        refine pw_iload_n d14_11 rfl ?_
        refine pw_iload_n d14_12 rfl ?_
        refine pw_iast d14_13 hT_5 hA0 rfl rfl rfl (by omega) (by omega) (by omega) (by omega) (fun h2739 T2740 F2741 E2742 => ?_)
        have f2743 := hF_5.tr (F2741.up (by decide))
        refine pw_iinc d14_14 m14 rfl rfl rfl ?_
        refine pw_goto d14_17 rfl ?_
        exact ih5 h2739 ((xL2_5 + 1)) (xL3_5) T2740 f2743 (by omega) (by omega) (by omega) (by omega)
  refine pw_iconst d14_0 ?_
  refine pw_istore_n d14_1 m14 rfl rfl ?_
  refine pw_aload_n d14_2 rfl ?_
  refine pw_alen d14_3 hT hA0 rfl (by decide) ?_
  refine pw_istore_n d14_4 m14 rfl rfl ?_
  exact L5 _ h (0) (((10 : Nat) : Int)) hT hF0 (by omega) (by omega) (by omega) (pv_mu _)
end
