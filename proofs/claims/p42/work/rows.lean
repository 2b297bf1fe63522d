section
-- ===== PART A: goes FIRST, ahead of the names: the tables' words, and 'selects' of the private methods out of them =====
/-- a private method of a class that the tables say can be made, by its rows of tables_1 -/
def lw_okq (q : MethodName × Nat) : Prop := (q.1.cls ≠ "java/lang/invoke/MethodHandle" ∧ q.1.cls ≠ "java/lang/invoke/VarHandle") ∧ Cond.instantiable q.1.cls q.2 ∈ tables_1 ∧ Cond.privateMethod q.1 ∈ tables_1 ∧ Cond.instanceMethod q.1 ∈ tables_1
theorem lw_p0 : lw_okq (⟨"AngleNet$Tape", "advance", "()V"⟩, 11) := ⟨⟨by decide +kernel, by decide +kernel⟩, List.mem_of_getElem? (i := 30) (by decide +kernel), List.mem_of_getElem? (i := 337) (by decide +kernel), List.mem_of_getElem? (i := 338) (by decide +kernel)⟩
theorem lw_p1 : lw_okq (⟨"AngleNet$Tape", "readLine", "()Z"⟩, 11) := ⟨⟨by decide +kernel, by decide +kernel⟩, List.mem_of_getElem? (i := 30) (by decide +kernel), List.mem_of_getElem? (i := 347) (by decide +kernel), List.mem_of_getElem? (i := 348) (by decide +kernel)⟩
theorem lw_p2 : lw_okq (⟨"AngleNet$Tape", "takeWord", "(Ljava/lang/String;)Z"⟩, 11) := ⟨⟨by decide +kernel, by decide +kernel⟩, List.mem_of_getElem? (i := 30) (by decide +kernel), List.mem_of_getElem? (i := 352) (by decide +kernel), List.mem_of_getElem? (i := 353) (by decide +kernel)⟩
theorem lw_p3 : lw_okq (⟨"AngleNet$Tape", "readPosts", "()Z"⟩, 11) := ⟨⟨by decide +kernel, by decide +kernel⟩, List.mem_of_getElem? (i := 30) (by decide +kernel), List.mem_of_getElem? (i := 404) (by decide +kernel), List.mem_of_getElem? (i := 405) (by decide +kernel)⟩
theorem lw_p4 : lw_okq (⟨"AngleNet$Tape", "takeNumber", "(II)Z"⟩, 11) := ⟨⟨by decide +kernel, by decide +kernel⟩, List.mem_of_getElem? (i := 30) (by decide +kernel), List.mem_of_getElem? (i := 408) (by decide +kernel), List.mem_of_getElem? (i := 409) (by decide +kernel)⟩
theorem lw_p5 : lw_okq (⟨"AngleNet$Tape", "fail", "(II)Z"⟩, 11) := ⟨⟨by decide +kernel, by decide +kernel⟩, List.mem_of_getElem? (i := 30) (by decide +kernel), List.mem_of_getElem? (i := 412) (by decide +kernel), List.mem_of_getElem? (i := 413) (by decide +kernel)⟩
theorem lw_p6 : lw_okq (⟨"AngleNet$Tape", "valueOfToken", "()I"⟩, 11) := ⟨⟨by decide +kernel, by decide +kernel⟩, List.mem_of_getElem? (i := 30) (by decide +kernel), List.mem_of_getElem? (i := 416) (by decide +kernel), List.mem_of_getElem? (i := 417) (by decide +kernel)⟩
theorem lw_p7 : lw_okq (⟨"AngleNet$Tape", "readThird", "()Z"⟩, 11) := ⟨⟨by decide +kernel, by decide +kernel⟩, List.mem_of_getElem? (i := 30) (by decide +kernel), List.mem_of_getElem? (i := 426) (by decide +kernel), List.mem_of_getElem? (i := 427) (by decide +kernel)⟩
theorem lw_p8 : lw_okq (⟨"AngleNet$Tape", "takePost", "()Z"⟩, 11) := ⟨⟨by decide +kernel, by decide +kernel⟩, List.mem_of_getElem? (i := 30) (by decide +kernel), List.mem_of_getElem? (i := 430) (by decide +kernel), List.mem_of_getElem? (i := 431) (by decide +kernel)⟩
theorem lw_p9 : lw_okq (⟨"AngleNet$Tape", "readSum", "(III)Z"⟩, 11) := ⟨⟨by decide +kernel, by decide +kernel⟩, List.mem_of_getElem? (i := 30) (by decide +kernel), List.mem_of_getElem? (i := 442) (by decide +kernel), List.mem_of_getElem? (i := 443) (by decide +kernel)⟩
theorem lw_p10 : lw_okq (⟨"AngleNet$Net", "shareSides", "(II)V"⟩, 16) := ⟨⟨by decide +kernel, by decide +kernel⟩, List.mem_of_getElem? (i := 36) (by decide +kernel), List.mem_of_getElem? (i := 451) (by decide +kernel), List.mem_of_getElem? (i := 452) (by decide +kernel)⟩
theorem lw_p11 : lw_okq (⟨"AngleNet$Tape", "readAngle", "()Z"⟩, 11) := ⟨⟨by decide +kernel, by decide +kernel⟩, List.mem_of_getElem? (i := 30) (by decide +kernel), List.mem_of_getElem? (i := 456) (by decide +kernel), List.mem_of_getElem? (i := 457) (by decide +kernel)⟩
theorem lw_p12 : lw_okq (⟨"AngleNet$Tape", "readCorner", "()Z"⟩, 11) := ⟨⟨by decide +kernel, by decide +kernel⟩, List.mem_of_getElem? (i := 30) (by decide +kernel), List.mem_of_getElem? (i := 461) (by decide +kernel), List.mem_of_getElem? (i := 462) (by decide +kernel)⟩
theorem lw_p13 : lw_okq (⟨"AngleNet$Tape", "readWeight", "()Z"⟩, 11) := ⟨⟨by decide +kernel, by decide +kernel⟩, List.mem_of_getElem? (i := 30) (by decide +kernel), List.mem_of_getElem? (i := 467) (by decide +kernel), List.mem_of_getElem? (i := 468) (by decide +kernel)⟩
theorem lw_p14 : lw_okq (⟨"AngleNet$Tape", "readPlace", "()Z"⟩, 11) := ⟨⟨by decide +kernel, by decide +kernel⟩, List.mem_of_getElem? (i := 30) (by decide +kernel), List.mem_of_getElem? (i := 484) (by decide +kernel), List.mem_of_getElem? (i := 485) (by decide +kernel)⟩
theorem lw_p15 : lw_okq (⟨"AngleNet$Tape", "readCircle", "()Z"⟩, 11) := ⟨⟨by decide +kernel, by decide +kernel⟩, List.mem_of_getElem? (i := 30) (by decide +kernel), List.mem_of_getElem? (i := 489) (by decide +kernel), List.mem_of_getElem? (i := 490) (by decide +kernel)⟩
def lw_privs_1 : List (MethodName × Nat) := [(⟨"AngleNet$Tape", "advance", "()V"⟩, 11), (⟨"AngleNet$Tape", "readLine", "()Z"⟩, 11), (⟨"AngleNet$Tape", "takeWord", "(Ljava/lang/String;)Z"⟩, 11), (⟨"AngleNet$Tape", "readPosts", "()Z"⟩, 11), (⟨"AngleNet$Tape", "takeNumber", "(II)Z"⟩, 11), (⟨"AngleNet$Tape", "fail", "(II)Z"⟩, 11), (⟨"AngleNet$Tape", "valueOfToken", "()I"⟩, 11), (⟨"AngleNet$Tape", "readThird", "()Z"⟩, 11), (⟨"AngleNet$Tape", "takePost", "()Z"⟩, 11), (⟨"AngleNet$Tape", "readSum", "(III)Z"⟩, 11), (⟨"AngleNet$Net", "shareSides", "(II)V"⟩, 16), (⟨"AngleNet$Tape", "readAngle", "()Z"⟩, 11), (⟨"AngleNet$Tape", "readCorner", "()Z"⟩, 11), (⟨"AngleNet$Tape", "readWeight", "()Z"⟩, 11), (⟨"AngleNet$Tape", "readPlace", "()Z"⟩, 11), (⟨"AngleNet$Tape", "readCircle", "()Z"⟩, 11)]
theorem lw_r1 : ∀ q ∈ lw_privs_1, lw_okq q := List.forall_mem_cons.mpr ⟨lw_p0, List.forall_mem_cons.mpr ⟨lw_p1, List.forall_mem_cons.mpr ⟨lw_p2, List.forall_mem_cons.mpr ⟨lw_p3, List.forall_mem_cons.mpr ⟨lw_p4, List.forall_mem_cons.mpr ⟨lw_p5, List.forall_mem_cons.mpr ⟨lw_p6, List.forall_mem_cons.mpr ⟨lw_p7, List.forall_mem_cons.mpr ⟨lw_p8, List.forall_mem_cons.mpr ⟨lw_p9, List.forall_mem_cons.mpr ⟨lw_p10, List.forall_mem_cons.mpr ⟨lw_p11, List.forall_mem_cons.mpr ⟨lw_p12, List.forall_mem_cons.mpr ⟨lw_p13, List.forall_mem_cons.mpr ⟨lw_p14, List.forall_mem_cons.mpr ⟨lw_p15, fun _ h => absurd h List.not_mem_nil⟩⟩⟩⟩⟩⟩⟩⟩⟩⟩⟩⟩⟩⟩⟩⟩
theorem lw_p16 : lw_okq (⟨"AngleNet$Shape", "hangsTogether", "(LAngleNet$Net;I)Z"⟩, 2) := ⟨⟨by decide +kernel, by decide +kernel⟩, List.mem_of_getElem? (i := 214) (by decide +kernel), List.mem_of_getElem? (i := 574) (by decide +kernel), List.mem_of_getElem? (i := 575) (by decide +kernel)⟩
theorem lw_p17 : lw_okq (⟨"AngleNet$Shape", "turnOthersFrom", "(LAngleNet$Net;I)Z"⟩, 2) := ⟨⟨by decide +kernel, by decide +kernel⟩, List.mem_of_getElem? (i := 214) (by decide +kernel), List.mem_of_getElem? (i := 593) (by decide +kernel), List.mem_of_getElem? (i := 594) (by decide +kernel)⟩
theorem lw_p18 : lw_okq (⟨"AngleNet$Laying", "begin", "(LAngleNet$Net;I)I"⟩, 8) := ⟨⟨by decide +kernel, by decide +kernel⟩, List.mem_of_getElem? (i := 227) (by decide +kernel), List.mem_of_getElem? (i := 677) (by decide +kernel), List.mem_of_getElem? (i := 678) (by decide +kernel)⟩
theorem lw_p19 : lw_okq (⟨"AngleNet$Laying", "goTo", "(LAngleNet$Net;I)V"⟩, 8) := ⟨⟨by decide +kernel, by decide +kernel⟩, List.mem_of_getElem? (i := 227) (by decide +kernel), List.mem_of_getElem? (i := 692) (by decide +kernel), List.mem_of_getElem? (i := 693) (by decide +kernel)⟩
theorem lw_p20 : lw_okq (⟨"AngleNet$Laying", "move", "(LAngleNet$Net;II)V"⟩, 8) := ⟨⟨by decide +kernel, by decide +kernel⟩, List.mem_of_getElem? (i := 227) (by decide +kernel), List.mem_of_getElem? (i := 697) (by decide +kernel), List.mem_of_getElem? (i := 698) (by decide +kernel)⟩
theorem lw_p21 : lw_okq (⟨"AngleNet$Laying", "way", "()I"⟩, 8) := ⟨⟨by decide +kernel, by decide +kernel⟩, List.mem_of_getElem? (i := 227) (by decide +kernel), List.mem_of_getElem? (i := 701) (by decide +kernel), List.mem_of_getElem? (i := 702) (by decide +kernel)⟩
theorem lw_p22 : lw_okq (⟨"AngleNet$Laying", "mostForCorner", "(LAngleNet$Net;II)I"⟩, 8) := ⟨⟨by decide +kernel, by decide +kernel⟩, List.mem_of_getElem? (i := 227) (by decide +kernel), List.mem_of_getElem? (i := 721) (by decide +kernel), List.mem_of_getElem? (i := 722) (by decide +kernel)⟩
theorem lw_p23 : lw_okq (⟨"AngleNet$Laying", "leastForCorner", "(LAngleNet$Net;II)I"⟩, 8) := ⟨⟨by decide +kernel, by decide +kernel⟩, List.mem_of_getElem? (i := 227) (by decide +kernel), List.mem_of_getElem? (i := 725) (by decide +kernel), List.mem_of_getElem? (i := 726) (by decide +kernel)⟩
theorem lw_p24 : lw_okq (⟨"AngleNet", "flipAnew", "(II)I"⟩, 9) := ⟨⟨by decide +kernel, by decide +kernel⟩, List.mem_of_getElem? (i := 22) (by decide +kernel), List.mem_of_getElem? (i := 795) (by decide +kernel), List.mem_of_getElem? (i := 796) (by decide +kernel)⟩
theorem lw_p25 : lw_okq (⟨"AngleNet$Currents", "layOut", "(LAngleNet$Net;III)V"⟩, 4) := ⟨⟨by decide +kernel, by decide +kernel⟩, List.mem_of_getElem? (i := 258) (by decide +kernel), List.mem_of_getElem? (i := 908) (by decide +kernel), List.mem_of_getElem? (i := 909) (by decide +kernel)⟩
theorem lw_p26 : lw_okq (⟨"AngleNet$Currents", "clearColumns", "()J"⟩, 4) := ⟨⟨by decide +kernel, by decide +kernel⟩, List.mem_of_getElem? (i := 258) (by decide +kernel), List.mem_of_getElem? (i := 915) (by decide +kernel), List.mem_of_getElem? (i := 916) (by decide +kernel)⟩
theorem lw_p27 : lw_okq (⟨"AngleNet$Currents", "clearRow", "(IIJ)V"⟩, 4) := ⟨⟨by decide +kernel, by decide +kernel⟩, List.mem_of_getElem? (i := 258) (by decide +kernel), List.mem_of_getElem? (i := 919) (by decide +kernel), List.mem_of_getElem? (i := 920) (by decide +kernel)⟩
theorem lw_p28 : lw_okq (⟨"AngleNet", "hasFlow", "(II)Z"⟩, 9) := ⟨⟨by decide +kernel, by decide +kernel⟩, List.mem_of_getElem? (i := 22) (by decide +kernel), List.mem_of_getElem? (i := 927) (by decide +kernel), List.mem_of_getElem? (i := 928) (by decide +kernel)⟩
theorem lw_p29 : lw_okq (⟨"AngleNet", "flipInThought", "(J)Z"⟩, 9) := ⟨⟨by decide +kernel, by decide +kernel⟩, List.mem_of_getElem? (i := 22) (by decide +kernel), List.mem_of_getElem? (i := 977) (by decide +kernel), List.mem_of_getElem? (i := 978) (by decide +kernel)⟩
theorem lw_p30 : lw_okq (⟨"AngleNet", "slotsInUse", "()I"⟩, 9) := ⟨⟨by decide +kernel, by decide +kernel⟩, List.mem_of_getElem? (i := 22) (by decide +kernel), List.mem_of_getElem? (i := 1008) (by decide +kernel), List.mem_of_getElem? (i := 1009) (by decide +kernel)⟩
theorem lw_p31 : lw_okq (⟨"AngleNetModel", "advance", "()V"⟩, 28) := ⟨⟨by decide +kernel, by decide +kernel⟩, List.mem_of_getElem? (i := 1046) (by decide +kernel), List.mem_of_getElem? (i := 1164) (by decide +kernel), List.mem_of_getElem? (i := 1165) (by decide +kernel)⟩
def lw_privs_2 : List (MethodName × Nat) := [(⟨"AngleNet$Shape", "hangsTogether", "(LAngleNet$Net;I)Z"⟩, 2), (⟨"AngleNet$Shape", "turnOthersFrom", "(LAngleNet$Net;I)Z"⟩, 2), (⟨"AngleNet$Laying", "begin", "(LAngleNet$Net;I)I"⟩, 8), (⟨"AngleNet$Laying", "goTo", "(LAngleNet$Net;I)V"⟩, 8), (⟨"AngleNet$Laying", "move", "(LAngleNet$Net;II)V"⟩, 8), (⟨"AngleNet$Laying", "way", "()I"⟩, 8), (⟨"AngleNet$Laying", "mostForCorner", "(LAngleNet$Net;II)I"⟩, 8), (⟨"AngleNet$Laying", "leastForCorner", "(LAngleNet$Net;II)I"⟩, 8), (⟨"AngleNet", "flipAnew", "(II)I"⟩, 9), (⟨"AngleNet$Currents", "layOut", "(LAngleNet$Net;III)V"⟩, 4), (⟨"AngleNet$Currents", "clearColumns", "()J"⟩, 4), (⟨"AngleNet$Currents", "clearRow", "(IIJ)V"⟩, 4), (⟨"AngleNet", "hasFlow", "(II)Z"⟩, 9), (⟨"AngleNet", "flipInThought", "(J)Z"⟩, 9), (⟨"AngleNet", "slotsInUse", "()I"⟩, 9), (⟨"AngleNetModel", "advance", "()V"⟩, 28)]
theorem lw_r2 : ∀ q ∈ lw_privs_2, lw_okq q := List.forall_mem_cons.mpr ⟨lw_p16, List.forall_mem_cons.mpr ⟨lw_p17, List.forall_mem_cons.mpr ⟨lw_p18, List.forall_mem_cons.mpr ⟨lw_p19, List.forall_mem_cons.mpr ⟨lw_p20, List.forall_mem_cons.mpr ⟨lw_p21, List.forall_mem_cons.mpr ⟨lw_p22, List.forall_mem_cons.mpr ⟨lw_p23, List.forall_mem_cons.mpr ⟨lw_p24, List.forall_mem_cons.mpr ⟨lw_p25, List.forall_mem_cons.mpr ⟨lw_p26, List.forall_mem_cons.mpr ⟨lw_p27, List.forall_mem_cons.mpr ⟨lw_p28, List.forall_mem_cons.mpr ⟨lw_p29, List.forall_mem_cons.mpr ⟨lw_p30, List.forall_mem_cons.mpr ⟨lw_p31, fun _ h => absurd h List.not_mem_nil⟩⟩⟩⟩⟩⟩⟩⟩⟩⟩⟩⟩⟩⟩⟩⟩
theorem lw_p32 : lw_okq (⟨"AngleNetModel", "see", "(I)I"⟩, 28) := ⟨⟨by decide +kernel, by decide +kernel⟩, List.mem_of_getElem? (i := 1046) (by decide +kernel), List.mem_of_getElem? (i := 1168) (by decide +kernel), List.mem_of_getElem? (i := 1169) (by decide +kernel)⟩
theorem lw_p33 : lw_okq (⟨"AngleNetModel", "good", "()Z"⟩, 28) := ⟨⟨by decide +kernel, by decide +kernel⟩, List.mem_of_getElem? (i := 1046) (by decide +kernel), List.mem_of_getElem? (i := 1178) (by decide +kernel), List.mem_of_getElem? (i := 1179) (by decide +kernel)⟩
theorem lw_p34 : lw_okq (⟨"AngleNetModel", "readLine", "()V"⟩, 28) := ⟨⟨by decide +kernel, by decide +kernel⟩, List.mem_of_getElem? (i := 1046) (by decide +kernel), List.mem_of_getElem? (i := 1182) (by decide +kernel), List.mem_of_getElem? (i := 1183) (by decide +kernel)⟩
theorem lw_p35 : lw_okq (⟨"AngleNetModel", "told", "(Ljava/lang/String;II)I"⟩, 28) := ⟨⟨by decide +kernel, by decide +kernel⟩, List.mem_of_getElem? (i := 1046) (by decide +kernel), List.mem_of_getElem? (i := 1187) (by decide +kernel), List.mem_of_getElem? (i := 1188) (by decide +kernel)⟩
theorem lw_p36 : lw_okq (⟨"AngleNetModel", "needs", "(Ljava/lang/String;)V"⟩, 28) := ⟨⟨by decide +kernel, by decide +kernel⟩, List.mem_of_getElem? (i := 1046) (by decide +kernel), List.mem_of_getElem? (i := 1191) (by decide +kernel), List.mem_of_getElem? (i := 1192) (by decide +kernel)⟩
theorem lw_p37 : lw_okq (⟨"AngleNetModel", "takes", "(Ljava/lang/String;)Z"⟩, 28) := ⟨⟨by decide +kernel, by decide +kernel⟩, List.mem_of_getElem? (i := 1046) (by decide +kernel), List.mem_of_getElem? (i := 1195) (by decide +kernel), List.mem_of_getElem? (i := 1196) (by decide +kernel)⟩
theorem lw_p38 : lw_okq (⟨"AngleNetModel", "is", "(Ljava/lang/String;)Z"⟩, 28) := ⟨⟨by decide +kernel, by decide +kernel⟩, List.mem_of_getElem? (i := 1046) (by decide +kernel), List.mem_of_getElem? (i := 1199) (by decide +kernel), List.mem_of_getElem? (i := 1200) (by decide +kernel)⟩
theorem lw_p39 : lw_okq (⟨"AngleNetModel", "errs", "(I)V"⟩, 28) := ⟨⟨by decide +kernel, by decide +kernel⟩, List.mem_of_getElem? (i := 1046) (by decide +kernel), List.mem_of_getElem? (i := 1205) (by decide +kernel), List.mem_of_getElem? (i := 1206) (by decide +kernel)⟩
theorem lw_p40 : lw_okq (⟨"AngleNetModel", "number", "(II)I"⟩, 28) := ⟨⟨by decide +kernel, by decide +kernel⟩, List.mem_of_getElem? (i := 1046) (by decide +kernel), List.mem_of_getElem? (i := 1209) (by decide +kernel), List.mem_of_getElem? (i := 1210) (by decide +kernel)⟩
theorem lw_p41 : lw_okq (⟨"AngleNetModel", "readNext", "()V"⟩, 28) := ⟨⟨by decide +kernel, by decide +kernel⟩, List.mem_of_getElem? (i := 1046) (by decide +kernel), List.mem_of_getElem? (i := 1213) (by decide +kernel), List.mem_of_getElem? (i := 1214) (by decide +kernel)⟩
theorem lw_p42 : lw_okq (⟨"AngleNetModel", "readThird", "()V"⟩, 28) := ⟨⟨by decide +kernel, by decide +kernel⟩, List.mem_of_getElem? (i := 1046) (by decide +kernel), List.mem_of_getElem? (i := 1223) (by decide +kernel), List.mem_of_getElem? (i := 1224) (by decide +kernel)⟩
theorem lw_p43 : lw_okq (⟨"AngleNetModel", "freshPost", "()I"⟩, 28) := ⟨⟨by decide +kernel, by decide +kernel⟩, List.mem_of_getElem? (i := 1046) (by decide +kernel), List.mem_of_getElem? (i := 1227) (by decide +kernel), List.mem_of_getElem? (i := 1228) (by decide +kernel)⟩
theorem lw_p44 : lw_okq (⟨"AngleNetModel", "freshOther", "(I)I"⟩, 28) := ⟨⟨by decide +kernel, by decide +kernel⟩, List.mem_of_getElem? (i := 1046) (by decide +kernel), List.mem_of_getElem? (i := 1231) (by decide +kernel), List.mem_of_getElem? (i := 1232) (by decide +kernel)⟩
theorem lw_p45 : lw_okq (⟨"AngleNetModel", "readCorner", "()V"⟩, 28) := ⟨⟨by decide +kernel, by decide +kernel⟩, List.mem_of_getElem? (i := 1046) (by decide +kernel), List.mem_of_getElem? (i := 1245) (by decide +kernel), List.mem_of_getElem? (i := 1246) (by decide +kernel)⟩
theorem lw_p46 : lw_okq (⟨"AngleNetModel", "readWeight", "()V"⟩, 28) := ⟨⟨by decide +kernel, by decide +kernel⟩, List.mem_of_getElem? (i := 1046) (by decide +kernel), List.mem_of_getElem? (i := 1250) (by decide +kernel), List.mem_of_getElem? (i := 1251) (by decide +kernel)⟩
theorem lw_p47 : lw_okq (⟨"AngleNetModel", "readPlace", "()V"⟩, 28) := ⟨⟨by decide +kernel, by decide +kernel⟩, List.mem_of_getElem? (i := 1046) (by decide +kernel), List.mem_of_getElem? (i := 1254) (by decide +kernel), List.mem_of_getElem? (i := 1255) (by decide +kernel)⟩
def lw_privs_3 : List (MethodName × Nat) := [(⟨"AngleNetModel", "see", "(I)I"⟩, 28), (⟨"AngleNetModel", "good", "()Z"⟩, 28), (⟨"AngleNetModel", "readLine", "()V"⟩, 28), (⟨"AngleNetModel", "told", "(Ljava/lang/String;II)I"⟩, 28), (⟨"AngleNetModel", "needs", "(Ljava/lang/String;)V"⟩, 28), (⟨"AngleNetModel", "takes", "(Ljava/lang/String;)Z"⟩, 28), (⟨"AngleNetModel", "is", "(Ljava/lang/String;)Z"⟩, 28), (⟨"AngleNetModel", "errs", "(I)V"⟩, 28), (⟨"AngleNetModel", "number", "(II)I"⟩, 28), (⟨"AngleNetModel", "readNext", "()V"⟩, 28), (⟨"AngleNetModel", "readThird", "()V"⟩, 28), (⟨"AngleNetModel", "freshPost", "()I"⟩, 28), (⟨"AngleNetModel", "freshOther", "(I)I"⟩, 28), (⟨"AngleNetModel", "readCorner", "()V"⟩, 28), (⟨"AngleNetModel", "readWeight", "()V"⟩, 28), (⟨"AngleNetModel", "readPlace", "()V"⟩, 28)]
theorem lw_r3 : ∀ q ∈ lw_privs_3, lw_okq q := List.forall_mem_cons.mpr ⟨lw_p32, List.forall_mem_cons.mpr ⟨lw_p33, List.forall_mem_cons.mpr ⟨lw_p34, List.forall_mem_cons.mpr ⟨lw_p35, List.forall_mem_cons.mpr ⟨lw_p36, List.forall_mem_cons.mpr ⟨lw_p37, List.forall_mem_cons.mpr ⟨lw_p38, List.forall_mem_cons.mpr ⟨lw_p39, List.forall_mem_cons.mpr ⟨lw_p40, List.forall_mem_cons.mpr ⟨lw_p41, List.forall_mem_cons.mpr ⟨lw_p42, List.forall_mem_cons.mpr ⟨lw_p43, List.forall_mem_cons.mpr ⟨lw_p44, List.forall_mem_cons.mpr ⟨lw_p45, List.forall_mem_cons.mpr ⟨lw_p46, List.forall_mem_cons.mpr ⟨lw_p47, fun _ h => absurd h List.not_mem_nil⟩⟩⟩⟩⟩⟩⟩⟩⟩⟩⟩⟩⟩⟩⟩⟩
theorem lw_p48 : lw_okq (⟨"AngleNetModel", "isThird", "(I)Z"⟩, 28) := ⟨⟨by decide +kernel, by decide +kernel⟩, List.mem_of_getElem? (i := 1046) (by decide +kernel), List.mem_of_getElem? (i := 1262) (by decide +kernel), List.mem_of_getElem? (i := 1263) (by decide +kernel)⟩
theorem lw_p49 : lw_okq (⟨"AngleNetModel", "at", "(II)I"⟩, 28) := ⟨⟨by decide +kernel, by decide +kernel⟩, List.mem_of_getElem? (i := 1046) (by decide +kernel), List.mem_of_getElem? (i := 1267) (by decide +kernel), List.mem_of_getElem? (i := 1268) (by decide +kernel)⟩
theorem lw_p50 : lw_okq (⟨"AngleNetModel", "isPost", "(I)Z"⟩, 28) := ⟨⟨by decide +kernel, by decide +kernel⟩, List.mem_of_getElem? (i := 1046) (by decide +kernel), List.mem_of_getElem? (i := 1275) (by decide +kernel), List.mem_of_getElem? (i := 1276) (by decide +kernel)⟩
theorem lw_p51 : lw_okq (⟨"AngleNetModel", "of", "(II)I"⟩, 28) := ⟨⟨by decide +kernel, by decide +kernel⟩, List.mem_of_getElem? (i := 1046) (by decide +kernel), List.mem_of_getElem? (i := 1280) (by decide +kernel), List.mem_of_getElem? (i := 1281) (by decide +kernel)⟩
theorem lw_p52 : lw_okq (⟨"AngleNetModel", "thirds", "()I"⟩, 28) := ⟨⟨by decide +kernel, by decide +kernel⟩, List.mem_of_getElem? (i := 1046) (by decide +kernel), List.mem_of_getElem? (i := 1284) (by decide +kernel), List.mem_of_getElem? (i := 1285) (by decide +kernel)⟩
theorem lw_p53 : lw_okq (⟨"AngleNetModel", "isSide", "(II)Z"⟩, 28) := ⟨⟨by decide +kernel, by decide +kernel⟩, List.mem_of_getElem? (i := 1046) (by decide +kernel), List.mem_of_getElem? (i := 1288) (by decide +kernel), List.mem_of_getElem? (i := 1289) (by decide +kernel)⟩
theorem lw_p54 : lw_okq (⟨"AngleNetModel", "many", "(II)I"⟩, 28) := ⟨⟨by decide +kernel, by decide +kernel⟩, List.mem_of_getElem? (i := 1046) (by decide +kernel), List.mem_of_getElem? (i := 1292) (by decide +kernel), List.mem_of_getElem? (i := 1293) (by decide +kernel)⟩
theorem lw_p55 : lw_okq (⟨"AngleNetModel", "areTwo", "(II)Z"⟩, 28) := ⟨⟨by decide +kernel, by decide +kernel⟩, List.mem_of_getElem? (i := 1046) (by decide +kernel), List.mem_of_getElem? (i := 1300) (by decide +kernel), List.mem_of_getElem? (i := 1301) (by decide +kernel)⟩
theorem lw_p56 : lw_okq (⟨"AngleNetModel", "sideAt", "(I)I"⟩, 28) := ⟨⟨by decide +kernel, by decide +kernel⟩, List.mem_of_getElem? (i := 1046) (by decide +kernel), List.mem_of_getElem? (i := 1308) (by decide +kernel), List.mem_of_getElem? (i := 1309) (by decide +kernel)⟩
theorem lw_p57 : lw_okq (⟨"AngleNetModel", "isNet", "()Z"⟩, 28) := ⟨⟨by decide +kernel, by decide +kernel⟩, List.mem_of_getElem? (i := 1046) (by decide +kernel), List.mem_of_getElem? (i := 1316) (by decide +kernel), List.mem_of_getElem? (i := 1317) (by decide +kernel)⟩
theorem lw_p58 : lw_okq (⟨"AngleNetModel", "euler", "()I"⟩, 28) := ⟨⟨by decide +kernel, by decide +kernel⟩, List.mem_of_getElem? (i := 1046) (by decide +kernel), List.mem_of_getElem? (i := 1320) (by decide +kernel), List.mem_of_getElem? (i := 1321) (by decide +kernel)⟩
theorem lw_p59 : lw_okq (⟨"AngleNetModel", "used", "()I"⟩, 28) := ⟨⟨by decide +kernel, by decide +kernel⟩, List.mem_of_getElem? (i := 1046) (by decide +kernel), List.mem_of_getElem? (i := 1324) (by decide +kernel), List.mem_of_getElem? (i := 1325) (by decide +kernel)⟩
theorem lw_p60 : lw_okq (⟨"AngleNetModel", "sidesMany", "()I"⟩, 28) := ⟨⟨by decide +kernel, by decide +kernel⟩, List.mem_of_getElem? (i := 1046) (by decide +kernel), List.mem_of_getElem? (i := 1331) (by decide +kernel), List.mem_of_getElem? (i := 1332) (by decide +kernel)⟩
theorem lw_p61 : lw_okq (⟨"AngleNetModel", "isGood", "()Z"⟩, 28) := ⟨⟨by decide +kernel, by decide +kernel⟩, List.mem_of_getElem? (i := 1046) (by decide +kernel), List.mem_of_getElem? (i := 1335) (by decide +kernel), List.mem_of_getElem? (i := 1336) (by decide +kernel)⟩
theorem lw_p62 : lw_okq (⟨"AngleNetModel", "isGoodAt", "(I)Z"⟩, 28) := ⟨⟨by decide +kernel, by decide +kernel⟩, List.mem_of_getElem? (i := 1046) (by decide +kernel), List.mem_of_getElem? (i := 1339) (by decide +kernel), List.mem_of_getElem? (i := 1340) (by decide +kernel)⟩
theorem lw_p63 : lw_okq (⟨"AngleNetModel", "shareBeside", "(III)Z"⟩, 28) := ⟨⟨by decide +kernel, by decide +kernel⟩, List.mem_of_getElem? (i := 1046) (by decide +kernel), List.mem_of_getElem? (i := 1343) (by decide +kernel), List.mem_of_getElem? (i := 1344) (by decide +kernel)⟩
def lw_privs_4 : List (MethodName × Nat) := [(⟨"AngleNetModel", "isThird", "(I)Z"⟩, 28), (⟨"AngleNetModel", "at", "(II)I"⟩, 28), (⟨"AngleNetModel", "isPost", "(I)Z"⟩, 28), (⟨"AngleNetModel", "of", "(II)I"⟩, 28), (⟨"AngleNetModel", "thirds", "()I"⟩, 28), (⟨"AngleNetModel", "isSide", "(II)Z"⟩, 28), (⟨"AngleNetModel", "many", "(II)I"⟩, 28), (⟨"AngleNetModel", "areTwo", "(II)Z"⟩, 28), (⟨"AngleNetModel", "sideAt", "(I)I"⟩, 28), (⟨"AngleNetModel", "isNet", "()Z"⟩, 28), (⟨"AngleNetModel", "euler", "()I"⟩, 28), (⟨"AngleNetModel", "used", "()I"⟩, 28), (⟨"AngleNetModel", "sidesMany", "()I"⟩, 28), (⟨"AngleNetModel", "isGood", "()Z"⟩, 28), (⟨"AngleNetModel", "isGoodAt", "(I)Z"⟩, 28), (⟨"AngleNetModel", "shareBeside", "(III)Z"⟩, 28)]
theorem lw_r4 : ∀ q ∈ lw_privs_4, lw_okq q := List.forall_mem_cons.mpr ⟨lw_p48, List.forall_mem_cons.mpr ⟨lw_p49, List.forall_mem_cons.mpr ⟨lw_p50, List.forall_mem_cons.mpr ⟨lw_p51, List.forall_mem_cons.mpr ⟨lw_p52, List.forall_mem_cons.mpr ⟨lw_p53, List.forall_mem_cons.mpr ⟨lw_p54, List.forall_mem_cons.mpr ⟨lw_p55, List.forall_mem_cons.mpr ⟨lw_p56, List.forall_mem_cons.mpr ⟨lw_p57, List.forall_mem_cons.mpr ⟨lw_p58, List.forall_mem_cons.mpr ⟨lw_p59, List.forall_mem_cons.mpr ⟨lw_p60, List.forall_mem_cons.mpr ⟨lw_p61, List.forall_mem_cons.mpr ⟨lw_p62, List.forall_mem_cons.mpr ⟨lw_p63, fun _ h => absurd h List.not_mem_nil⟩⟩⟩⟩⟩⟩⟩⟩⟩⟩⟩⟩⟩⟩⟩⟩
theorem lw_p64 : lw_okq (⟨"AngleNetModel", "partsOf", "(IZ)I"⟩, 28) := ⟨⟨by decide +kernel, by decide +kernel⟩, List.mem_of_getElem? (i := 1046) (by decide +kernel), List.mem_of_getElem? (i := 1347) (by decide +kernel), List.mem_of_getElem? (i := 1348) (by decide +kernel)⟩
theorem lw_p65 : lw_okq (⟨"AngleNetModel", "partFrom", "(IZ)I"⟩, 28) := ⟨⟨by decide +kernel, by decide +kernel⟩, List.mem_of_getElem? (i := 1046) (by decide +kernel), List.mem_of_getElem? (i := 1351) (by decide +kernel), List.mem_of_getElem? (i := 1352) (by decide +kernel)⟩
theorem lw_p66 : lw_okq (⟨"AngleNetModel", "isTwoSided", "()Z"⟩, 28) := ⟨⟨by decide +kernel, by decide +kernel⟩, List.mem_of_getElem? (i := 1046) (by decide +kernel), List.mem_of_getElem? (i := 1355) (by decide +kernel), List.mem_of_getElem? (i := 1356) (by decide +kernel)⟩
theorem lw_p67 : lw_okq (⟨"AngleNetModel", "mustTurn", "(II)I"⟩, 28) := ⟨⟨by decide +kernel, by decide +kernel⟩, List.mem_of_getElem? (i := 1046) (by decide +kernel), List.mem_of_getElem? (i := 1359) (by decide +kernel), List.mem_of_getElem? (i := 1360) (by decide +kernel)⟩
theorem lw_p68 : lw_okq (⟨"AngleNetModel", "goesBy", "(III)I"⟩, 28) := ⟨⟨by decide +kernel, by decide +kernel⟩, List.mem_of_getElem? (i := 1046) (by decide +kernel), List.mem_of_getElem? (i := 1363) (by decide +kernel), List.mem_of_getElem? (i := 1364) (by decide +kernel)⟩
theorem lw_p69 : lw_okq (⟨"AngleNetModel", "rimMany", "()I"⟩, 28) := ⟨⟨by decide +kernel, by decide +kernel⟩, List.mem_of_getElem? (i := 1046) (by decide +kernel), List.mem_of_getElem? (i := 1367) (by decide +kernel), List.mem_of_getElem? (i := 1368) (by decide +kernel)⟩
theorem lw_p70 : lw_okq (⟨"AngleNetModel", "rimPosts", "()I"⟩, 28) := ⟨⟨by decide +kernel, by decide +kernel⟩, List.mem_of_getElem? (i := 1046) (by decide +kernel), List.mem_of_getElem? (i := 1371) (by decide +kernel), List.mem_of_getElem? (i := 1372) (by decide +kernel)⟩
theorem lw_p71 : lw_okq (⟨"AngleNetModel", "handles", "()I"⟩, 28) := ⟨⟨by decide +kernel, by decide +kernel⟩, List.mem_of_getElem? (i := 1046) (by decide +kernel), List.mem_of_getElem? (i := 1375) (by decide +kernel), List.mem_of_getElem? (i := 1376) (by decide +kernel)⟩
theorem lw_p72 : lw_okq (⟨"AngleNetModel", "firstBeside", "(I)I"⟩, 28) := ⟨⟨by decide +kernel, by decide +kernel⟩, List.mem_of_getElem? (i := 1046) (by decide +kernel), List.mem_of_getElem? (i := 1383) (by decide +kernel), List.mem_of_getElem? (i := 1384) (by decide +kernel)⟩
theorem lw_p73 : lw_okq (⟨"AngleNetModel", "otherThird", "(III)I"⟩, 28) := ⟨⟨by decide +kernel, by decide +kernel⟩, List.mem_of_getElem? (i := 1046) (by decide +kernel), List.mem_of_getElem? (i := 1387) (by decide +kernel), List.mem_of_getElem? (i := 1388) (by decide +kernel)⟩
theorem lw_p74 : lw_okq (⟨"AngleNetModel", "beyond", "(III)I"⟩, 28) := ⟨⟨by decide +kernel, by decide +kernel⟩, List.mem_of_getElem? (i := 1046) (by decide +kernel), List.mem_of_getElem? (i := 1391) (by decide +kernel), List.mem_of_getElem? (i := 1392) (by decide +kernel)⟩
theorem lw_p75 : lw_okq (⟨"AngleNetModel", "toldPosts", "()I"⟩, 28) := ⟨⟨by decide +kernel, by decide +kernel⟩, List.mem_of_getElem? (i := 1046) (by decide +kernel), List.mem_of_getElem? (i := 1400) (by decide +kernel), List.mem_of_getElem? (i := 1401) (by decide +kernel)⟩
theorem lw_p76 : lw_okq (⟨"AngleNetModel", "anglesOf", "(I)I"⟩, 28) := ⟨⟨by decide +kernel, by decide +kernel⟩, List.mem_of_getElem? (i := 1046) (by decide +kernel), List.mem_of_getElem? (i := 1404) (by decide +kernel), List.mem_of_getElem? (i := 1405) (by decide +kernel)⟩
theorem lw_p77 : lw_okq (⟨"AngleNetModel", "fillBounds", "()V"⟩, 28) := ⟨⟨by decide +kernel, by decide +kernel⟩, List.mem_of_getElem? (i := 1046) (by decide +kernel), List.mem_of_getElem? (i := 1412) (by decide +kernel), List.mem_of_getElem? (i := 1413) (by decide +kernel)⟩
theorem lw_p78 : lw_okq (⟨"AngleNetModel", "canLay", "()Z"⟩, 28) := ⟨⟨by decide +kernel, by decide +kernel⟩, List.mem_of_getElem? (i := 1046) (by decide +kernel), List.mem_of_getElem? (i := 1416) (by decide +kernel), List.mem_of_getElem? (i := 1417) (by decide +kernel)⟩
theorem lw_p79 : lw_okq (⟨"AngleNetModel", "barsBy", "(I)I"⟩, 28) := ⟨⟨by decide +kernel, by decide +kernel⟩, List.mem_of_getElem? (i := 1046) (by decide +kernel), List.mem_of_getElem? (i := 1420) (by decide +kernel), List.mem_of_getElem? (i := 1421) (by decide +kernel)⟩
def lw_privs_5 : List (MethodName × Nat) := [(⟨"AngleNetModel", "partsOf", "(IZ)I"⟩, 28), (⟨"AngleNetModel", "partFrom", "(IZ)I"⟩, 28), (⟨"AngleNetModel", "isTwoSided", "()Z"⟩, 28), (⟨"AngleNetModel", "mustTurn", "(II)I"⟩, 28), (⟨"AngleNetModel", "goesBy", "(III)I"⟩, 28), (⟨"AngleNetModel", "rimMany", "()I"⟩, 28), (⟨"AngleNetModel", "rimPosts", "()I"⟩, 28), (⟨"AngleNetModel", "handles", "()I"⟩, 28), (⟨"AngleNetModel", "firstBeside", "(I)I"⟩, 28), (⟨"AngleNetModel", "otherThird", "(III)I"⟩, 28), (⟨"AngleNetModel", "beyond", "(III)I"⟩, 28), (⟨"AngleNetModel", "toldPosts", "()I"⟩, 28), (⟨"AngleNetModel", "anglesOf", "(I)I"⟩, 28), (⟨"AngleNetModel", "fillBounds", "()V"⟩, 28), (⟨"AngleNetModel", "canLay", "()Z"⟩, 28), (⟨"AngleNetModel", "barsBy", "(I)I"⟩, 28)]
theorem lw_r5 : ∀ q ∈ lw_privs_5, lw_okq q := List.forall_mem_cons.mpr ⟨lw_p64, List.forall_mem_cons.mpr ⟨lw_p65, List.forall_mem_cons.mpr ⟨lw_p66, List.forall_mem_cons.mpr ⟨lw_p67, List.forall_mem_cons.mpr ⟨lw_p68, List.forall_mem_cons.mpr ⟨lw_p69, List.forall_mem_cons.mpr ⟨lw_p70, List.forall_mem_cons.mpr ⟨lw_p71, List.forall_mem_cons.mpr ⟨lw_p72, List.forall_mem_cons.mpr ⟨lw_p73, List.forall_mem_cons.mpr ⟨lw_p74, List.forall_mem_cons.mpr ⟨lw_p75, List.forall_mem_cons.mpr ⟨lw_p76, List.forall_mem_cons.mpr ⟨lw_p77, List.forall_mem_cons.mpr ⟨lw_p78, List.forall_mem_cons.mpr ⟨lw_p79, fun _ h => absurd h List.not_mem_nil⟩⟩⟩⟩⟩⟩⟩⟩⟩⟩⟩⟩⟩⟩⟩⟩
theorem lw_p80 : lw_okq (⟨"AngleNetModel", "mostAt", "(I)I"⟩, 28) := ⟨⟨by decide +kernel, by decide +kernel⟩, List.mem_of_getElem? (i := 1046) (by decide +kernel), List.mem_of_getElem? (i := 1424) (by decide +kernel), List.mem_of_getElem? (i := 1425) (by decide +kernel)⟩
theorem lw_p81 : lw_okq (⟨"AngleNetModel", "leastAt", "(I)I"⟩, 28) := ⟨⟨by decide +kernel, by decide +kernel⟩, List.mem_of_getElem? (i := 1046) (by decide +kernel), List.mem_of_getElem? (i := 1428) (by decide +kernel), List.mem_of_getElem? (i := 1429) (by decide +kernel)⟩
theorem lw_p82 : lw_okq (⟨"AngleNetModel", "barring", "()I"⟩, 28) := ⟨⟨by decide +kernel, by decide +kernel⟩, List.mem_of_getElem? (i := 1046) (by decide +kernel), List.mem_of_getElem? (i := 1437) (by decide +kernel), List.mem_of_getElem? (i := 1438) (by decide +kernel)⟩
theorem lw_p83 : lw_okq (⟨"AngleNetModel", "canBe", "(II)Z"⟩, 28) := ⟨⟨by decide +kernel, by decide +kernel⟩, List.mem_of_getElem? (i := 1046) (by decide +kernel), List.mem_of_getElem? (i := 1445) (by decide +kernel), List.mem_of_getElem? (i := 1446) (by decide +kernel)⟩
theorem lw_p84 : lw_okq (⟨"AngleNetModel", "arePlaced", "(III)Z"⟩, 28) := ⟨⟨by decide +kernel, by decide +kernel⟩, List.mem_of_getElem? (i := 1046) (by decide +kernel), List.mem_of_getElem? (i := 1462) (by decide +kernel), List.mem_of_getElem? (i := 1463) (by decide +kernel)⟩
theorem lw_p85 : lw_okq (⟨"AngleNetModel", "hasPlace", "(I)Z"⟩, 28) := ⟨⟨by decide +kernel, by decide +kernel⟩, List.mem_of_getElem? (i := 1046) (by decide +kernel), List.mem_of_getElem? (i := 1466) (by decide +kernel), List.mem_of_getElem? (i := 1467) (by decide +kernel)⟩
theorem lw_p86 : lw_okq (⟨"AngleNetModel", "turnOf", "(III)I"⟩, 28) := ⟨⟨by decide +kernel, by decide +kernel⟩, List.mem_of_getElem? (i := 1046) (by decide +kernel), List.mem_of_getElem? (i := 1470) (by decide +kernel), List.mem_of_getElem? (i := 1471) (by decide +kernel)⟩
theorem lw_p87 : lw_okq (⟨"AngleNetModel", "insideOf", "(IIII)I"⟩, 28) := ⟨⟨by decide +kernel, by decide +kernel⟩, List.mem_of_getElem? (i := 1046) (by decide +kernel), List.mem_of_getElem? (i := 1478) (by decide +kernel), List.mem_of_getElem? (i := 1479) (by decide +kernel)⟩
theorem lw_p88 : lw_okq (⟨"AngleNetModel", "lifted", "(IIII)J"⟩, 28) := ⟨⟨by decide +kernel, by decide +kernel⟩, List.mem_of_getElem? (i := 1046) (by decide +kernel), List.mem_of_getElem? (i := 1482) (by decide +kernel), List.mem_of_getElem? (i := 1483) (by decide +kernel)⟩
theorem lw_p89 : lw_okq (⟨"AngleNetModel", "mayOf", "(II)I"⟩, 28) := ⟨⟨by decide +kernel, by decide +kernel⟩, List.mem_of_getElem? (i := 1046) (by decide +kernel), List.mem_of_getElem? (i := 1490) (by decide +kernel), List.mem_of_getElem? (i := 1491) (by decide +kernel)⟩
theorem lw_p90 : lw_okq (⟨"AngleNetModel", "mayFlip", "(II)Z"⟩, 28) := ⟨⟨by decide +kernel, by decide +kernel⟩, List.mem_of_getElem? (i := 1046) (by decide +kernel), List.mem_of_getElem? (i := 1494) (by decide +kernel), List.mem_of_getElem? (i := 1495) (by decide +kernel)⟩
theorem lw_p91 : lw_okq (⟨"AngleNetModel", "lesserThird", "(II)I"⟩, 28) := ⟨⟨by decide +kernel, by decide +kernel⟩, List.mem_of_getElem? (i := 1046) (by decide +kernel), List.mem_of_getElem? (i := 1498) (by decide +kernel), List.mem_of_getElem? (i := 1499) (by decide +kernel)⟩
theorem lw_p92 : lw_okq (⟨"AngleNetModel", "turnsSide", "(II)I"⟩, 28) := ⟨⟨by decide +kernel, by decide +kernel⟩, List.mem_of_getElem? (i := 1046) (by decide +kernel), List.mem_of_getElem? (i := 1509) (by decide +kernel), List.mem_of_getElem? (i := 1510) (by decide +kernel)⟩
theorem lw_p93 : lw_okq (⟨"AngleNetModel", "setThird", "(IIIII)V"⟩, 28) := ⟨⟨by decide +kernel, by decide +kernel⟩, List.mem_of_getElem? (i := 1046) (by decide +kernel), List.mem_of_getElem? (i := 1513) (by decide +kernel), List.mem_of_getElem? (i := 1514) (by decide +kernel)⟩
theorem lw_p94 : lw_okq (⟨"AngleNetModel", "setWeight", "(III)V"⟩, 28) := ⟨⟨by decide +kernel, by decide +kernel⟩, List.mem_of_getElem? (i := 1046) (by decide +kernel), List.mem_of_getElem? (i := 1517) (by decide +kernel), List.mem_of_getElem? (i := 1518) (by decide +kernel)⟩
theorem lw_p95 : lw_okq (⟨"AngleNetModel", "illegalSide", "()I"⟩, 28) := ⟨⟨by decide +kernel, by decide +kernel⟩, List.mem_of_getElem? (i := 1046) (by decide +kernel), List.mem_of_getElem? (i := 1525) (by decide +kernel), List.mem_of_getElem? (i := 1526) (by decide +kernel)⟩
def lw_privs_6 : List (MethodName × Nat) := [(⟨"AngleNetModel", "mostAt", "(I)I"⟩, 28), (⟨"AngleNetModel", "leastAt", "(I)I"⟩, 28), (⟨"AngleNetModel", "barring", "()I"⟩, 28), (⟨"AngleNetModel", "canBe", "(II)Z"⟩, 28), (⟨"AngleNetModel", "arePlaced", "(III)Z"⟩, 28), (⟨"AngleNetModel", "hasPlace", "(I)Z"⟩, 28), (⟨"AngleNetModel", "turnOf", "(III)I"⟩, 28), (⟨"AngleNetModel", "insideOf", "(IIII)I"⟩, 28), (⟨"AngleNetModel", "lifted", "(IIII)J"⟩, 28), (⟨"AngleNetModel", "mayOf", "(II)I"⟩, 28), (⟨"AngleNetModel", "mayFlip", "(II)Z"⟩, 28), (⟨"AngleNetModel", "lesserThird", "(II)I"⟩, 28), (⟨"AngleNetModel", "turnsSide", "(II)I"⟩, 28), (⟨"AngleNetModel", "setThird", "(IIIII)V"⟩, 28), (⟨"AngleNetModel", "setWeight", "(III)V"⟩, 28), (⟨"AngleNetModel", "illegalSide", "()I"⟩, 28)]
theorem lw_r6 : ∀ q ∈ lw_privs_6, lw_okq q := List.forall_mem_cons.mpr ⟨lw_p80, List.forall_mem_cons.mpr ⟨lw_p81, List.forall_mem_cons.mpr ⟨lw_p82, List.forall_mem_cons.mpr ⟨lw_p83, List.forall_mem_cons.mpr ⟨lw_p84, List.forall_mem_cons.mpr ⟨lw_p85, List.forall_mem_cons.mpr ⟨lw_p86, List.forall_mem_cons.mpr ⟨lw_p87, List.forall_mem_cons.mpr ⟨lw_p88, List.forall_mem_cons.mpr ⟨lw_p89, List.forall_mem_cons.mpr ⟨lw_p90, List.forall_mem_cons.mpr ⟨lw_p91, List.forall_mem_cons.mpr ⟨lw_p92, List.forall_mem_cons.mpr ⟨lw_p93, List.forall_mem_cons.mpr ⟨lw_p94, List.forall_mem_cons.mpr ⟨lw_p95, fun _ h => absurd h List.not_mem_nil⟩⟩⟩⟩⟩⟩⟩⟩⟩⟩⟩⟩⟩⟩⟩⟩
theorem lw_p96 : lw_okq (⟨"AngleNetModel", "draw", "(I)I"⟩, 28) := ⟨⟨by decide +kernel, by decide +kernel⟩, List.mem_of_getElem? (i := 1046) (by decide +kernel), List.mem_of_getElem? (i := 1549) (by decide +kernel), List.mem_of_getElem? (i := 1550) (by decide +kernel)⟩
theorem lw_p97 : lw_okq (⟨"AngleNetModel", "weightOf", "(II)I"⟩, 28) := ⟨⟨by decide +kernel, by decide +kernel⟩, List.mem_of_getElem? (i := 1046) (by decide +kernel), List.mem_of_getElem? (i := 1562) (by decide +kernel), List.mem_of_getElem? (i := 1563) (by decide +kernel)⟩
theorem lw_p98 : lw_okq (⟨"AngleNetModel", "isBall", "()Z"⟩, 28) := ⟨⟨by decide +kernel, by decide +kernel⟩, List.mem_of_getElem? (i := 1046) (by decide +kernel), List.mem_of_getElem? (i := 1570) (by decide +kernel), List.mem_of_getElem? (i := 1571) (by decide +kernel)⟩
theorem lw_p99 : lw_okq (⟨"AngleNetModel", "badWeight", "()I"⟩, 28) := ⟨⟨by decide +kernel, by decide +kernel⟩, List.mem_of_getElem? (i := 1046) (by decide +kernel), List.mem_of_getElem? (i := 1574) (by decide +kernel), List.mem_of_getElem? (i := 1575) (by decide +kernel)⟩
theorem lw_p100 : lw_okq (⟨"AngleNetModel", "badPost", "()I"⟩, 28) := ⟨⟨by decide +kernel, by decide +kernel⟩, List.mem_of_getElem? (i := 1046) (by decide +kernel), List.mem_of_getElem? (i := 1579) (by decide +kernel), List.mem_of_getElem? (i := 1580) (by decide +kernel)⟩
theorem lw_p101 : lw_okq (⟨"AngleNetModel", "cutOf", "(I)I"⟩, 28) := ⟨⟨by decide +kernel, by decide +kernel⟩, List.mem_of_getElem? (i := 1046) (by decide +kernel), List.mem_of_getElem? (i := 1583) (by decide +kernel), List.mem_of_getElem? (i := 1584) (by decide +kernel)⟩
theorem lw_p102 : lw_okq (⟨"AngleNetModel", "badSet", "()I"⟩, 28) := ⟨⟨by decide +kernel, by decide +kernel⟩, List.mem_of_getElem? (i := 1046) (by decide +kernel), List.mem_of_getElem? (i := 1587) (by decide +kernel), List.mem_of_getElem? (i := 1588) (by decide +kernel)⟩
theorem lw_p103 : lw_okq (⟨"AngleNetModel", "treesOf", "()J"⟩, 28) := ⟨⟨by decide +kernel, by decide +kernel⟩, List.mem_of_getElem? (i := 1046) (by decide +kernel), List.mem_of_getElem? (i := 1603) (by decide +kernel), List.mem_of_getElem? (i := 1604) (by decide +kernel)⟩
theorem lw_p104 : lw_okq (⟨"AngleNetModel", "picksBut", "(I)V"⟩, 28) := ⟨⟨by decide +kernel, by decide +kernel⟩, List.mem_of_getElem? (i := 1046) (by decide +kernel), List.mem_of_getElem? (i := 1607) (by decide +kernel), List.mem_of_getElem? (i := 1608) (by decide +kernel)⟩
theorem lw_p105 : lw_okq (⟨"AngleNetModel", "give", "(II)J"⟩, 28) := ⟨⟨by decide +kernel, by decide +kernel⟩, List.mem_of_getElem? (i := 1046) (by decide +kernel), List.mem_of_getElem? (i := 1611) (by decide +kernel), List.mem_of_getElem? (i := 1612) (by decide +kernel)⟩
theorem lw_p106 : lw_okq (⟨"AngleNetModel", "worth", "(I)J"⟩, 28) := ⟨⟨by decide +kernel, by decide +kernel⟩, List.mem_of_getElem? (i := 1046) (by decide +kernel), List.mem_of_getElem? (i := 1616) (by decide +kernel), List.mem_of_getElem? (i := 1617) (by decide +kernel)⟩
theorem lw_p107 : lw_okq (⟨"AngleNetModel", "trades", "(III)V"⟩, 28) := ⟨⟨by decide +kernel, by decide +kernel⟩, List.mem_of_getElem? (i := 1046) (by decide +kernel), List.mem_of_getElem? (i := 1620) (by decide +kernel), List.mem_of_getElem? (i := 1621) (by decide +kernel)⟩
theorem lw_p108 : lw_okq (⟨"AngleNetModel", "isFlow", "(II)Z"⟩, 28) := ⟨⟨by decide +kernel, by decide +kernel⟩, List.mem_of_getElem? (i := 1046) (by decide +kernel), List.mem_of_getElem? (i := 1629) (by decide +kernel), List.mem_of_getElem? (i := 1630) (by decide +kernel)⟩
theorem lw_p109 : lw_okq (⟨"AngleNetModel", "heightOf", "(III)J"⟩, 28) := ⟨⟨by decide +kernel, by decide +kernel⟩, List.mem_of_getElem? (i := 1046) (by decide +kernel), List.mem_of_getElem? (i := 1633) (by decide +kernel), List.mem_of_getElem? (i := 1634) (by decide +kernel)⟩
theorem lw_p110 : lw_okq (⟨"AngleNetModel", "fillHeights", "(II)V"⟩, 28) := ⟨⟨by decide +kernel, by decide +kernel⟩, List.mem_of_getElem? (i := 1046) (by decide +kernel), List.mem_of_getElem? (i := 1641) (by decide +kernel), List.mem_of_getElem? (i := 1642) (by decide +kernel)⟩
theorem lw_p111 : lw_okq (⟨"AngleNetModel", "flowDivisor", "()J"⟩, 28) := ⟨⟨by decide +kernel, by decide +kernel⟩, List.mem_of_getElem? (i := 1046) (by decide +kernel), List.mem_of_getElem? (i := 1645) (by decide +kernel), List.mem_of_getElem? (i := 1646) (by decide +kernel)⟩
def lw_privs_7 : List (MethodName × Nat) := [(⟨"AngleNetModel", "draw", "(I)I"⟩, 28), (⟨"AngleNetModel", "weightOf", "(II)I"⟩, 28), (⟨"AngleNetModel", "isBall", "()Z"⟩, 28), (⟨"AngleNetModel", "badWeight", "()I"⟩, 28), (⟨"AngleNetModel", "badPost", "()I"⟩, 28), (⟨"AngleNetModel", "cutOf", "(I)I"⟩, 28), (⟨"AngleNetModel", "badSet", "()I"⟩, 28), (⟨"AngleNetModel", "treesOf", "()J"⟩, 28), (⟨"AngleNetModel", "picksBut", "(I)V"⟩, 28), (⟨"AngleNetModel", "give", "(II)J"⟩, 28), (⟨"AngleNetModel", "worth", "(I)J"⟩, 28), (⟨"AngleNetModel", "trades", "(III)V"⟩, 28), (⟨"AngleNetModel", "isFlow", "(II)Z"⟩, 28), (⟨"AngleNetModel", "heightOf", "(III)J"⟩, 28), (⟨"AngleNetModel", "fillHeights", "(II)V"⟩, 28), (⟨"AngleNetModel", "flowDivisor", "()J"⟩, 28)]
theorem lw_r7 : ∀ q ∈ lw_privs_7, lw_okq q := List.forall_mem_cons.mpr ⟨lw_p96, List.forall_mem_cons.mpr ⟨lw_p97, List.forall_mem_cons.mpr ⟨lw_p98, List.forall_mem_cons.mpr ⟨lw_p99, List.forall_mem_cons.mpr ⟨lw_p100, List.forall_mem_cons.mpr ⟨lw_p101, List.forall_mem_cons.mpr ⟨lw_p102, List.forall_mem_cons.mpr ⟨lw_p103, List.forall_mem_cons.mpr ⟨lw_p104, List.forall_mem_cons.mpr ⟨lw_p105, List.forall_mem_cons.mpr ⟨lw_p106, List.forall_mem_cons.mpr ⟨lw_p107, List.forall_mem_cons.mpr ⟨lw_p108, List.forall_mem_cons.mpr ⟨lw_p109, List.forall_mem_cons.mpr ⟨lw_p110, List.forall_mem_cons.mpr ⟨lw_p111, fun _ h => absurd h List.not_mem_nil⟩⟩⟩⟩⟩⟩⟩⟩⟩⟩⟩⟩⟩⟩⟩⟩
theorem lw_p112 : lw_okq (⟨"AngleNetModel", "rootOf", "(I)I"⟩, 28) := ⟨⟨by decide +kernel, by decide +kernel⟩, List.mem_of_getElem? (i := 1046) (by decide +kernel), List.mem_of_getElem? (i := 1662) (by decide +kernel), List.mem_of_getElem? (i := 1663) (by decide +kernel)⟩
theorem lw_p113 : lw_okq (⟨"AngleNetModel", "failsAt", "(I)I"⟩, 28) := ⟨⟨by decide +kernel, by decide +kernel⟩, List.mem_of_getElem? (i := 1046) (by decide +kernel), List.mem_of_getElem? (i := 1682) (by decide +kernel), List.mem_of_getElem? (i := 1683) (by decide +kernel)⟩
theorem lw_p114 : lw_okq (⟨"AngleNetModel", "cornerOf", "(II)J"⟩, 28) := ⟨⟨by decide +kernel, by decide +kernel⟩, List.mem_of_getElem? (i := 1046) (by decide +kernel), List.mem_of_getElem? (i := 1686) (by decide +kernel), List.mem_of_getElem? (i := 1687) (by decide +kernel)⟩
theorem lw_p115 : lw_okq (⟨"AngleNetModel", "placed", "()I"⟩, 28) := ⟨⟨by decide +kernel, by decide +kernel⟩, List.mem_of_getElem? (i := 1046) (by decide +kernel), List.mem_of_getElem? (i := 1696) (by decide +kernel), List.mem_of_getElem? (i := 1697) (by decide +kernel)⟩
def lw_privs_8 : List (MethodName × Nat) := [(⟨"AngleNetModel", "rootOf", "(I)I"⟩, 28), (⟨"AngleNetModel", "failsAt", "(I)I"⟩, 28), (⟨"AngleNetModel", "cornerOf", "(II)J"⟩, 28), (⟨"AngleNetModel", "placed", "()I"⟩, 28)]
theorem lw_r8 : ∀ q ∈ lw_privs_8, lw_okq q := List.forall_mem_cons.mpr ⟨lw_p112, List.forall_mem_cons.mpr ⟨lw_p113, List.forall_mem_cons.mpr ⟨lw_p114, List.forall_mem_cons.mpr ⟨lw_p115, fun _ h => absurd h List.not_mem_nil⟩⟩⟩⟩
def lw_privs : List (MethodName × Nat) := lw_privs_1 ++ (lw_privs_2 ++ (lw_privs_3 ++ (lw_privs_4 ++ (lw_privs_5 ++ (lw_privs_6 ++ (lw_privs_7 ++ (lw_privs_8)))))))
def lw_tbl : List Cond := k2_sels lw_privs ++ tables_1
theorem lw_privs_ok : ∀ q ∈ lw_privs, lw_okq q := by
  show ∀ q ∈ lw_privs_1 ++ (lw_privs_2 ++ (lw_privs_3 ++ (lw_privs_4 ++ (lw_privs_5 ++ (lw_privs_6 ++ (lw_privs_7 ++ (lw_privs_8))))))), lw_okq q
  exact List.forall_mem_append.mpr ⟨lw_r1, List.forall_mem_append.mpr ⟨lw_r2, List.forall_mem_append.mpr ⟨lw_r3, List.forall_mem_append.mpr ⟨lw_r4, List.forall_mem_append.mpr ⟨lw_r5, List.forall_mem_append.mpr ⟨lw_r6, List.forall_mem_append.mpr ⟨lw_r7, lw_r8⟩⟩⟩⟩⟩⟩⟩
end
section
def pv_T0 : u_T := fun k => match k with
  | 0 => ("AngleNet", "tape", "LAngleNet$Tape;", true)
  | 1 => ("AngleNet", "now", "LAngleNet$Net;", true)
  | 2 => ("AngleNet", "thought", "LAngleNet$Net;", true)
  | 3 => ("AngleNet", "images", "[LAngleNet$Net;", true)
  | 4 => ("AngleNet", "kept", "[Z", true)
  | 5 => ("AngleNet", "slots", "[LAngleNet$Row;", true)
  | 6 => ("AngleNet", "shape", "LAngleNet$Shape;", true)
  | 7 => ("AngleNet", "laying", "LAngleNet$Laying;", true)
  | _ => ("AngleNet", "currents", "LAngleNet$Currents;", true)
def pv_t0 : Nat → FieldType := fun k => match k with
  | 0 => .object "AngleNet$Tape"
  | 1 => .object "AngleNet$Net"
  | 2 => .object "AngleNet$Net"
  | 3 => .array (.object "AngleNet$Net")
  | 4 => .array .boolean
  | 5 => .array (.object "AngleNet$Row")
  | 6 => .object "AngleNet$Shape"
  | 7 => .object "AngleNet$Laying"
  | _ => .object "AngleNet$Currents"
theorem pv_n0 : ∀ a, a < 9 → ∀ b, b < 9 → a ≠ b → (pv_T0 a).2.1 ≠ (pv_T0 b).2.1 := by decide +kernel
theorem pv_k0 : ∀ k, k < 9 → parseFieldDescriptor (pv_T0 k).2.2.1 = some (pv_t0 k) := by decide +kernel
theorem pv_w0 : ∀ w ∈ u_ws "AngleNet" pv_T0 9, w ∈ lw_tbl := by decide +kernel
def pv_T1 : u_T := fun k => match k with
  | 0 => ("AngleNet$Tape", "length", "I", false)
  | 1 => ("AngleNet$Tape", "fault", "I", false)
  | 2 => ("AngleNet$Tape", "place", "I", false)
  | 3 => ("AngleNet$Tape", "draft", "LAngleNet$Net;", true)
  | 4 => ("AngleNet$Tape", "bytes", "[B", true)
  | 5 => ("AngleNet$Tape", "start", "I", false)
  | 6 => ("AngleNet$Tape", "stop", "I", false)
  | 7 => ("AngleNet$Tape", "kind", "I", false)
  | 8 => ("AngleNet$Tape", "taken", "I", false)
  | 9 => ("AngleNet$Tape", "takenAt", "I", false)
  | _ => ("AngleNet$Tape", "cornerTold", "Z", false)
def pv_t1 : Nat → FieldType := fun k => match k with
  | 0 => .int
  | 1 => .int
  | 2 => .int
  | 3 => .object "AngleNet$Net"
  | 4 => .array .byte
  | 5 => .int
  | 6 => .int
  | 7 => .int
  | 8 => .int
  | 9 => .int
  | _ => .boolean
theorem pv_n1 : ∀ a, a < 11 → ∀ b, b < 11 → a ≠ b → (pv_T1 a).2.1 ≠ (pv_T1 b).2.1 := by decide +kernel
theorem pv_k1 : ∀ k, k < 11 → parseFieldDescriptor (pv_T1 k).2.2.1 = some (pv_t1 k) := by decide +kernel
theorem pv_w1 : ∀ w ∈ u_ws "AngleNet$Tape" pv_T1 11, w ∈ lw_tbl := by decide +kernel
def pv_T2 : u_T := fun k => match k with
  | 0 => ("AngleNet$Net", "posts", "I", false)
  | 1 => ("AngleNet$Net", "thirds", "I", false)
  | 2 => ("AngleNet$Net", "lines", "I", false)
  | 3 => ("AngleNet$Net", "least", "I", false)
  | 4 => ("AngleNet$Net", "most", "I", false)
  | 5 => ("AngleNet$Net", "corners", "[I", true)
  | 6 => ("AngleNet$Net", "sums", "[I", true)
  | 7 => ("AngleNet$Net", "angles", "[I", true)
  | 8 => ("AngleNet$Net", "xs", "[I", true)
  | 9 => ("AngleNet$Net", "ys", "[I", true)
  | 10 => ("AngleNet$Net", "circles", "[I", true)
  | 11 => ("AngleNet$Net", "weights", "[I", true)
  | 12 => ("AngleNet$Net", "shared", "[I", true)
  | 13 => ("AngleNet$Net", "history", "[I", true)
  | 14 => ("AngleNet$Net", "done", "I", false)
  | _ => ("AngleNet$Net", "remembered", "I", false)
def pv_t2 : Nat → FieldType := fun k => match k with
  | 0 => .int
  | 1 => .int
  | 2 => .int
  | 3 => .int
  | 4 => .int
  | 5 => .array .int
  | 6 => .array .int
  | 7 => .array .int
  | 8 => .array .int
  | 9 => .array .int
  | 10 => .array .int
  | 11 => .array .int
  | 12 => .array .int
  | 13 => .array .int
  | 14 => .int
  | _ => .int
theorem pv_n2 : ∀ a, a < 16 → ∀ b, b < 16 → a ≠ b → (pv_T2 a).2.1 ≠ (pv_T2 b).2.1 := by decide +kernel
theorem pv_k2 : ∀ k, k < 16 → parseFieldDescriptor (pv_T2 k).2.2.1 = some (pv_t2 k) := by decide +kernel
theorem pv_w2 : ∀ w ∈ u_ws "AngleNet$Net" pv_T2 16, w ∈ lw_tbl := by decide +kernel
def pv_T3 : u_T := fun k => match k with
  | 0 => ("AngleNet$Row", "made", "Z", false)
  | 1 => ("AngleNet$Row", "width", "I", false)
  | 2 => ("AngleNet$Row", "length", "I", false)
  | _ => ("AngleNet$Row", "numbers", "[J", true)
def pv_t3 : Nat → FieldType := fun k => match k with
  | 0 => .boolean
  | 1 => .int
  | 2 => .int
  | _ => .array .long
theorem pv_n3 : ∀ a, a < 4 → ∀ b, b < 4 → a ≠ b → (pv_T3 a).2.1 ≠ (pv_T3 b).2.1 := by decide +kernel
theorem pv_k3 : ∀ k, k < 4 → parseFieldDescriptor (pv_T3 k).2.2.1 = some (pv_t3 k) := by decide +kernel
theorem pv_w3 : ∀ w ∈ u_ws "AngleNet$Row" pv_T3 4, w ∈ lw_tbl := by decide +kernel
def pv_T4 : u_T := fun k => match k with
  | 0 => ("AngleNet$Shape", "turned", "[I", true)
  | _ => ("AngleNet$Shape", "queue", "[I", true)
def pv_t4 : Nat → FieldType := fun k => match k with
  | 0 => .array .int
  | _ => .array .int
theorem pv_n4 : ∀ a, a < 2 → ∀ b, b < 2 → a ≠ b → (pv_T4 a).2.1 ≠ (pv_T4 b).2.1 := by decide +kernel
theorem pv_k4 : ∀ k, k < 2 → parseFieldDescriptor (pv_T4 k).2.2.1 = some (pv_t4 k) := by decide +kernel
theorem pv_w4 : ∀ w ∈ u_ws "AngleNet$Shape" pv_T4 2, w ∈ lw_tbl := by decide +kernel
def pv_T5 : u_T := fun k => match k with
  | 0 => ("AngleNet$Laying", "members", "[I", true)
  | 1 => ("AngleNet$Laying", "postsOf", "[I", true)
  | 2 => ("AngleNet$Laying", "cornersIn", "[I", true)
  | 3 => ("AngleNet$Laying", "size", "I", false)
  | 4 => ("AngleNet$Laying", "set", "I", false)
  | 5 => ("AngleNet$Laying", "most", "I", false)
  | 6 => ("AngleNet$Laying", "least", "I", false)
  | _ => ("AngleNet$Laying", "asked", "I", false)
def pv_t5 : Nat → FieldType := fun k => match k with
  | 0 => .array .int
  | 1 => .array .int
  | 2 => .array .int
  | 3 => .int
  | 4 => .int
  | 5 => .int
  | 6 => .int
  | _ => .int
theorem pv_n5 : ∀ a, a < 8 → ∀ b, b < 8 → a ≠ b → (pv_T5 a).2.1 ≠ (pv_T5 b).2.1 := by decide +kernel
theorem pv_k5 : ∀ k, k < 8 → parseFieldDescriptor (pv_T5 k).2.2.1 = some (pv_t5 k) := by decide +kernel
theorem pv_w5 : ∀ w ∈ u_ws "AngleNet$Laying" pv_T5 8, w ∈ lw_tbl := by decide +kernel
def pv_T6 : u_T := fun k => match k with
  | 0 => ("AngleNet$Currents", "heights", "[J", true)
  | 1 => ("AngleNet$Currents", "cells", "[J", true)
  | 2 => ("AngleNet$Currents", "postOf", "[I", true)
  | _ => ("AngleNet$Currents", "size", "I", false)
def pv_t6 : Nat → FieldType := fun k => match k with
  | 0 => .array .long
  | 1 => .array .long
  | 2 => .array .int
  | _ => .int
theorem pv_n6 : ∀ a, a < 4 → ∀ b, b < 4 → a ≠ b → (pv_T6 a).2.1 ≠ (pv_T6 b).2.1 := by decide +kernel
theorem pv_k6 : ∀ k, k < 4 → parseFieldDescriptor (pv_T6 k).2.2.1 = some (pv_t6 k) := by decide +kernel
theorem pv_w6 : ∀ w ∈ u_ws "AngleNet$Currents" pv_T6 4, w ∈ lw_tbl := by decide +kernel
def pv_T7 : u_T := fun k => match k with
  | 0 => ("AngleNetModel", "thrown", "I", false)
  | 1 => ("AngleNetModel", "world", "[I", true)
  | 2 => ("AngleNetModel", "images", "[I", true)
  | 3 => ("AngleNetModel", "hasImage", "[Z", true)
  | 4 => ("AngleNetModel", "tape", "[B", true)
  | 5 => ("AngleNetModel", "taped", "I", false)
  | 6 => ("AngleNetModel", "five", "[I", true)
  | 7 => ("AngleNetModel", "size", "I", false)
  | 8 => ("AngleNetModel", "at", "I", false)
  | 9 => ("AngleNetModel", "from", "I", false)
  | 10 => ("AngleNetModel", "token", "I", false)
  | 11 => ("AngleNetModel", "value", "I", false)
  | 12 => ("AngleNetModel", "faultKind", "I", false)
  | 13 => ("AngleNetModel", "faultPlace", "I", false)
  | 14 => ("AngleNetModel", "fresh", "[I", true)
  | 15 => ("AngleNetModel", "turned", "[I", true)
  | 16 => ("AngleNetModel", "low", "[I", true)
  | 17 => ("AngleNetModel", "high", "[I", true)
  | 18 => ("AngleNetModel", "drawn", "J", false)
  | 19 => ("AngleNetModel", "rows", "[J", true)
  | 20 => ("AngleNetModel", "picked", "[I", true)
  | 21 => ("AngleNetModel", "pickedMany", "I", false)
  | 22 => ("AngleNetModel", "heights", "[J", true)
  | 23 => ("AngleNetModel", "kept", "[I", true)
  | 24 => ("AngleNetModel", "many", "[I", true)
  | 25 => ("AngleNetModel", "width", "[I", true)
  | 26 => ("AngleNetModel", "numbers", "[J", true)
  | _ => ("AngleNetModel", "moving", "[J", true)
def pv_t7 : Nat → FieldType := fun k => match k with
  | 0 => .int
  | 1 => .array .int
  | 2 => .array .int
  | 3 => .array .boolean
  | 4 => .array .byte
  | 5 => .int
  | 6 => .array .int
  | 7 => .int
  | 8 => .int
  | 9 => .int
  | 10 => .int
  | 11 => .int
  | 12 => .int
  | 13 => .int
  | 14 => .array .int
  | 15 => .array .int
  | 16 => .array .int
  | 17 => .array .int
  | 18 => .long
  | 19 => .array .long
  | 20 => .array .int
  | 21 => .int
  | 22 => .array .long
  | 23 => .array .int
  | 24 => .array .int
  | 25 => .array .int
  | 26 => .array .long
  | _ => .array .long
theorem pv_n7 : ∀ a, a < 28 → ∀ b, b < 28 → a ≠ b → (pv_T7 a).2.1 ≠ (pv_T7 b).2.1 := by decide +kernel
theorem pv_k7 : ∀ k, k < 28 → parseFieldDescriptor (pv_T7 k).2.2.1 = some (pv_t7 k) := by decide +kernel
theorem pv_w7 : ∀ w ∈ u_ws "AngleNetModel" pv_T7 28, w ∈ lw_tbl := by decide +kernel
abbrev pv_cls : List vw_C := [("AngleNet", pv_T0, 9), ("AngleNet$Tape", pv_T1, 11), ("AngleNet$Net", pv_T2, 16), ("AngleNet$Row", pv_T3, 4), ("AngleNet$Shape", pv_T4, 2), ("AngleNet$Laying", pv_T5, 8), ("AngleNet$Currents", pv_T6, 4), ("AngleNetModel", pv_T7, 28)]
theorem pv_clsok : ∀ (ci : Nat) (q : vw_C), pv_cls[ci]? = some q → (∀ w ∈ u_ws q.1 q.2.1 q.2.2, w ∈ lw_tbl) ∧ (∀ a, a < q.2.2 → ∀ b, b < q.2.2 → a ≠ b → (q.2.1 a).2.1 ≠ (q.2.1 b).2.1) ∧ ∃ ty : Nat → FieldType, ∀ k, k < q.2.2 → parseFieldDescriptor (q.2.1 k).2.2.1 = some (ty k) := by
  intro ci q h
  match ci, h with
  | 0, h => cases h; exact ⟨pv_w0, pv_n0, pv_t0, pv_k0⟩
  | 1, h => cases h; exact ⟨pv_w1, pv_n1, pv_t1, pv_k1⟩
  | 2, h => cases h; exact ⟨pv_w2, pv_n2, pv_t2, pv_k2⟩
  | 3, h => cases h; exact ⟨pv_w3, pv_n3, pv_t3, pv_k3⟩
  | 4, h => cases h; exact ⟨pv_w4, pv_n4, pv_t4, pv_k4⟩
  | 5, h => cases h; exact ⟨pv_w5, pv_n5, pv_t5, pv_k5⟩
  | 6, h => cases h; exact ⟨pv_w6, pv_n6, pv_t6, pv_k6⟩
  | 7, h => cases h; exact ⟨pv_w7, pv_n7, pv_t7, pv_k7⟩
  | n + 8, h => simp [pv_cls] at h
/-- the room that each method needs: frames, words of locals -/
def pv_rms : List (Nat × Nat) := [(3, 60), (0, 0), (2, 40), (1, 20), (1, 20), (1, 20), (1, 20), (1, 20), (1, 22), (0, 0), (0, 0), (10, 221), (9, 200), (1, 23), (0, 0), (0, 0), (1, 20), (0, 0), (0, 0), (8, 179), (5, 110), (1, 20), (0, 0), (4, 85), (0, 0), (2, 43), (1, 22), (0, 0), (3, 64), (2, 43), (0, 0), (1, 20), (3, 62), (2, 40), (0, 0), (0, 0), (0, 0), (7, 156), (3, 62), (1, 21), (0, 0), (6, 132), (1, 25), (0, 0), (4, 82), (6, 132), (4, 82), (1, 21), (0, 0), (0, 0), (4, 82), (4, 82), (1, 60), (0, 0), (1, 21), (0, 0), (3, 66), (2, 43), (1, 21), (2, 43), (1, 21), (3, 67), (2, 43), (6, 136), (0, 0), (4, 88), (1, 21), (0, 0), (3, 66), (4, 93), (3, 66), (2, 47), (1, 21), (3, 76), (2, 49), (1, 24), (0, 0), (0, 0), (3, 66), (2, 43), (1, 21), (4, 90), (3, 66), (5, 115), (5, 115), (3, 70), (2, 43), (2, 46), (1, 21), (0, 0), (1, 21), (3, 66), (5, 117), (4, 93), (0, 0), (2, 43), (1, 21), (0, 0), (1, 21), (3, 68), (2, 43), (0, 0), (1, 20), (5, 117), (5, 120), (4, 93), (2, 43), (2, 43), (1, 21), (5, 120), (4, 93), (2, 42), (1, 21), (0, 0), (3, 65), (1, 26), (0, 0), (0, 0), (4, 97), (3, 70), (2, 46), (1, 23), (5, 134), (4, 111), (3, 82), (1, 60), (1, 25), (5, 119), (4, 97), (5, 134), (4, 94), (3, 72), (2, 50), (5, 132), (4, 111), (5, 134), (2, 43), (6, 136), (5, 115), (2, 43), (1, 24), (0, 0), (2, 42), (0, 0), (6, 136), (1, 24), (5, 119), (4, 92), (0, 0), (3, 66), (1, 31), (0, 0), (5, 119), (2, 47), (5, 119), (2, 43), (0, 0), (0, 0), (2, 43), (5, 119), (1, 29), (0, 0), (0, 0), (1, 29), (5, 135), (0, 0), (4, 111), (1, 28), (0, 0), (0, 0), (0, 0), (4, 88), (0, 0), (0, 0), (2, 81), (2, 81), (2, 46), (1, 24), (1, 23), (0, 0), (1, 60), (0, 0), (1, 20), (1, 25), (0, 0), (1, 25), (0, 0), (1, 25), (0, 0), (12, 261), (1, 25), (0, 0), (0, 0), (11, 241), (8, 176), (7, 155), (6, 133), (5, 110), (1, 20), (2, 46), (10, 219), (7, 155), (3, 69), (4, 89), (1, 22), (0, 0), (1, 22), (9, 199), (4, 89), (4, 89), (2, 46), (1, 25), (0, 0), (4, 90), (1, 25), (0, 0), (0, 0), (3, 68), (2, 46), (3, 68), (2, 46), (5, 114), (4, 90), (7, 154), (0, 0), (5, 113), (1, 22), (0, 0), (4, 90), (3, 72), (2, 46), (1, 22), (4, 95), (3, 68), (3, 70), (2, 46), (1, 22), (3, 68), (3, 68), (6, 133), (5, 113), (4, 90), (2, 45), (1, 22), (2, 45), (1, 22), (1, 22), (4, 92), (1, 20), (3, 70), (2, 48), (1, 22), (1, 22), (4, 93), (3, 70), (5, 114), (4, 92), (2, 46), (3, 70), (4, 90), (3, 67), (2, 46), (1, 22), (4, 100), (3, 73), (2, 45), (6, 142), (5, 114), (4, 90), (1, 22), (0, 0), (5, 114), (3, 70), (0, 0), (0, 0), (7, 164), (6, 142), (7, 164), (1, 25), (4, 100), (6, 136), (0, 0), (4, 90), (0, 0), (7, 153), (6, 133), (5, 114), (5, 114), (4, 90), (5, 114), (7, 153), (5, 114), (6, 142), (5, 120), (2, 44), (4, 90), (1, 26), (0, 0), (6, 143), (5, 120), (5, 115), (7, 163), (6, 140), (4, 90), (0, 0), (7, 163), (2, 57), (1, 22), (2, 57), (6, 136), (1, 25), (2, 53), (1, 25), (0, 0), (5, 113), (3, 67), (2, 45), (2, 45), (0, 0), (2, 45)]
end
section
/-! THE PURE MACHINE: the bytecode of the system run on plain data (locals by number, a stack, cells by address); the rows behind it say that the real machine does the same. -/
abbrev pv_F : Type := Nat → Option Value
def pv_up1 (f : pv_F) (i : Nat) (v : Value) : pv_F := fun j => if j = i then some v else match f j with
  | some w => if j + 1 = i ∧ w.category = 2 then none else some w
  | none => none
def pv_up2 (f : pv_F) (i : Nat) (v : Value) : pv_F := fun j => if j = i then some v else if j = i + 1 then none else match f j with
  | some w => if j + 1 = i ∧ w.category = 2 then none else some w
  | none => none
/-- locals as a list -/
def pv_fl (l : List (Option Value)) : pv_F := fun i => match l[i]? with
  | some o => o
  | none => none
def pv_es : List Value → List (Option Value)
  | [] => []
  | v :: vs => if v.category = 2 then some v :: none :: pv_es vs else some v :: pv_es vs
def pv_en (as : List Value) : pv_F := pv_fl (pv_es as)
/-- a cell: an array (kind of its class, length, contents) or an object (number of its class, fields) -/
abbrev pv_E : Type := (Nat × vp_A) ⊕ (Nat × List Value)
abbrev pv_H : Type := Nat → Option pv_E
def pv_set (h : pv_H) (a : Nat) (e : pv_E) : pv_H := fun b => if b = a then some e else h b
/-- the methods: the tables' code words, in their order -/
def pv_ms : List (MethodName × ByteArray × Nat × Option FieldType) := tables_1.filterMap fun w => match w with
  | .code y c n r => some (y, c, n, r)
  | _ => none
def pv_y (M : Nat) : MethodName := match pv_ms[M]? with
  | some q => q.1
  | none => ⟨"", "", ""⟩
def pv_bc (M : Nat) : ByteArray := match pv_ms[M]? with
  | some q => q.2.1
  | none => ⟨#[]⟩
def pv_mL (M : Nat) : Nat := match pv_ms[M]? with
  | some q => q.2.2.1
  | none => 0
def pv_rt (M : Nat) : Option FieldType := match pv_ms[M]? with
  | some q => q.2.2.2
  | none => none
def pv_own (M : Nat) : String := (pv_y M).cls
def pv_dec (M pc : Nat) : Option (Instr × Nat) := match decode (pv_bc M) pc with
  | .ok q => some q
  | .error _ => none
/-- what length an instruction has that we take -/
def pv_ln (i : Instr) (len : Nat) : Bool := match i with
  | .bipush _ => len == 2
  | .iload _ => len == 2
  | .lload _ => len == 2
  | .aload _ => len == 2
  | .istore _ => len == 2
  | .lstore _ => len == 2
  | .astore _ => len == 2
  | .ldc _ => len == 2
  | .sipush _ => len == 3
  | .iinc _ _ => len == 3
  | .ifCond _ _ => len == 3
  | .if_icmp _ _ => len == 3
  | .goto _ => len == 3
  | .getfield _ => len == 3
  | .putfield _ => len == 3
  | .invokevirtual _ => len == 3
  | .invokestatic _ => len == 3
  | .ldc_w _ => len == 3
  | .ldc2_w _ => len == 3
  | .tableswitch _ _ _ _ => true
  | .lookupswitch _ _ => true
  | _ => len == 1
def pv_tg (pc : Nat) (off : Int) : Option Nat := match (pc : Int) + off with
  | .ofNat t => some t
  | .negSucc _ => none
def pv_cb (c : ClassFile.Cond) (x y : Int32) : Bool := match c with
  | .eq => decide (x = y)
  | .ne => decide (¬ x = y)
  | .lt => decide (x < y)
  | .ge => decide (y ≤ x)
  | .gt => decide (y < x)
  | .le => decide (x ≤ y)

/-- one step without a cell: where it goes on, the locals, the stack -/
def pv_sp (nL pc : Nat) (f : pv_F) (i : Instr) (st : List Value) : Option (Nat × pv_F × List Value) := match i with
  | .iconst n => some (pc + 1, f, .int (Int32.ofInt n) :: st)
  | .bipush n => some (pc + 2, f, .int (Int8.ofInt n).toInt32 :: st)
  | .sipush n => some (pc + 3, f, .int (Int16.ofInt n).toInt32 :: st)
  | .lconst n => some (pc + 1, f, .long (Int64.ofNat (n : Nat)) :: st)
  | .iload_n k => match f k with
    | some (.int x) => some (pc + 1, f, .int x :: st)
    | _ => none
  | .iload k => match f k with
    | some (.int x) => some (pc + 2, f, .int x :: st)
    | _ => none
  | .lload_n k => match f k with
    | some (.long x) => some (pc + 1, f, .long x :: st)
    | _ => none
  | .lload k => match f k with
    | some (.long x) => some (pc + 2, f, .long x :: st)
    | _ => none
  | .aload_n k => match f k with
    | some (.ref x) => some (pc + 1, f, .ref x :: st)
    | _ => none
  | .aload k => match f k with
    | some (.ref x) => some (pc + 2, f, .ref x :: st)
    | _ => none
  | .istore_n k => match st with
    | .int x :: r => if (k : Nat) < nL then some (pc + 1, pv_up1 f k (.int x), r) else none
    | _ => none
  | .istore k => match st with
    | .int x :: r => if k < nL then some (pc + 2, pv_up1 f k (.int x), r) else none
    | _ => none
  | .lstore_n k => match st with
    | .long x :: r => if (k : Nat) + 1 < nL then some (pc + 1, pv_up2 f k (.long x), r) else none
    | _ => none
  | .lstore k => match st with
    | .long x :: r => if k + 1 < nL then some (pc + 2, pv_up2 f k (.long x), r) else none
    | _ => none
  | .astore_n k => match st with
    | .ref x :: r => if (k : Nat) < nL then some (pc + 1, pv_up1 f k (.ref x), r) else none
    | _ => none
  | .astore k => match st with
    | .ref x :: r => if k < nL then some (pc + 2, pv_up1 f k (.ref x), r) else none
    | _ => none
  | .iinc k n => match f k with
    | some (.int x) => if k < nL then some (pc + 3, pv_up1 f k (.int (x + Int32.ofInt n)), st) else none
    | _ => none
  | .iadd => match st with
    | .int y :: .int x :: r => some (pc + 1, f, .int (x + y) :: r)
    | _ => none
  | .isub => match st with
    | .int y :: .int x :: r => some (pc + 1, f, .int (x - y) :: r)
    | _ => none
  | .imul => match st with
    | .int y :: .int x :: r => some (pc + 1, f, .int (x * y) :: r)
    | _ => none
  | .iand => match st with
    | .int y :: .int x :: r => some (pc + 1, f, .int (x &&& y) :: r)
    | _ => none
  | .ior => match st with
    | .int y :: .int x :: r => some (pc + 1, f, .int (x ||| y) :: r)
    | _ => none
  | .ixor => match st with
    | .int y :: .int x :: r => some (pc + 1, f, .int (x ^^^ y) :: r)
    | _ => none
  | .ishl => match st with
    | .int y :: .int x :: r => some (pc + 1, f, .int (x <<< (y &&& 31)) :: r)
    | _ => none
  | .ishr => match st with
    | .int y :: .int x :: r => some (pc + 1, f, .int (x >>> (y &&& 31)) :: r)
    | _ => none
  | .iushr => match st with
    | .int y :: .int x :: r => some (pc + 1, f, .int (x.toUInt32 >>> (y.toUInt32 &&& Int32.toUInt32 31)).toInt32 :: r)
    | _ => none
  | .idiv => match st with
    | .int y :: .int x :: r => if y = 0 then none else some (pc + 1, f, .int (x / y) :: r)
    | _ => none
  | .irem => match st with
    | .int y :: .int x :: r => if y = 0 then none else some (pc + 1, f, .int (x - x / y * y) :: r)
    | _ => none
  | .ineg => match st with
    | .int x :: r => some (pc + 1, f, .int (-x) :: r)
    | _ => none
  | .ladd => match st with
    | .long y :: .long x :: r => some (pc + 1, f, .long (x + y) :: r)
    | _ => none
  | .lsub => match st with
    | .long y :: .long x :: r => some (pc + 1, f, .long (x - y) :: r)
    | _ => none
  | .lmul => match st with
    | .long y :: .long x :: r => some (pc + 1, f, .long (x * y) :: r)
    | _ => none
  | .land => match st with
    | .long y :: .long x :: r => some (pc + 1, f, .long (x &&& y) :: r)
    | _ => none
  | .lor => match st with
    | .long y :: .long x :: r => some (pc + 1, f, .long (x ||| y) :: r)
    | _ => none
  | .lneg => match st with
    | .long x :: r => some (pc + 1, f, .long (-x) :: r)
    | _ => none
  | .lshl => match st with
    | .int y :: .long x :: r => some (pc + 1, f, .long (x <<< (y.toInt64 &&& 63)) :: r)
    | _ => none
  | .lshr => match st with
    | .int y :: .long x :: r => some (pc + 1, f, .long (x >>> (y.toInt64 &&& 63)) :: r)
    | _ => none
  | .ldiv => match st with
    | .long y :: .long x :: r => if y = 0 then none else some (pc + 1, f, .long (x / y) :: r)
    | _ => none
  | .lrem => match st with
    | .long y :: .long x :: r => if y = 0 then none else some (pc + 1, f, .long (x - x / y * y) :: r)
    | _ => none
  | .lcmp => match st with
    | .long y :: .long x :: r => some (pc + 1, f, .int (lg_cmp x y) :: r)
    | _ => none
  | .i2l => match st with
    | .int x :: r => some (pc + 1, f, .long x.toInt64 :: r)
    | _ => none
  | .l2i => match st with
    | .long x :: r => some (pc + 1, f, .int x.toInt32 :: r)
    | _ => none
  | .i2b => match st with
    | .int x :: r => some (pc + 1, f, .int x.toInt8.toInt32 :: r)
    | _ => none
  | .i2s => match st with
    | .int x :: r => some (pc + 1, f, .int x.toInt16.toInt32 :: r)
    | _ => none
  | .dup => match st with
    | v :: r => if v.category = 1 then some (pc + 1, f, v :: v :: r) else none
    | _ => none
  | .dup2 => match st with
    | v :: w :: r => if v.category = 1 ∧ w.category = 1 then some (pc + 1, f, v :: w :: v :: w :: r) else none
    | _ => none
  | .pop => match st with
    | v :: r => if v.category = 1 then some (pc + 1, f, r) else none
    | _ => none
  | .pop2 => match st with
    | v :: r => if v.category = 2 then some (pc + 1, f, r) else none
    | _ => none
  | .goto o => match pv_tg pc o with
    | some t => some (t, f, st)
    | none => none
  | .ifCond c o => match st with
    | .int x :: r => match pv_tg pc o with
      | some t => if pv_cb c x 0 = true then some (t, f, r) else some (pc + 3, f, r)
      | none => none
    | _ => none
  | .if_icmp c o => match st with
    | .int y :: .int x :: r => match pv_tg pc o with
      | some t => if pv_cb c x y = true then some (t, f, r) else some (pc + 3, f, r)
      | none => none
    | _ => none
  | .tableswitch d lo hi os => match st with
    | .int x :: r => if x.toInt < lo ∨ hi < x.toInt then (match pv_tg pc d with
        | some t => some (t, f, r)
        | none => none) else (match os[(x.toInt - lo).toNat]? with
        | some o => (match pv_tg pc o with
          | some t => some (t, f, r)
          | none => none)
        | none => none)
    | _ => none
  | .lookupswitch d ps => match st with
    | .int x :: r => if (ps.toList.zip (ps.toList.drop 1)).all (fun (a, next) => a.1 < next.1) = true then (match pv_tg pc (Op.lookupswitch.offset ps.toList d x.toInt) with
        | some t => some (t, f, r)
        | none => none) else none
    | _ => none
  | _ => none
/-- the kinds of arrays -/
def pv_tys (dA : Nat → ClassId) : List (ClassId × FieldType) := [(dA 0, .int), (dA 1, .long), (dA 2, .byte), (dA 3, .boolean), (dA 4, .object "AngleNet$Net"), (dA 5, .object "AngleNet$Row")]
def pv_find (C : String) : Option Nat := (List.range 8).find? fun i => decide ((pv_cls.map fun q => q.1)[i]? = some C)
/-- a field by its entry: number of its class, its place -/
def pv_gf (M idx : Nat) : Option (Nat × Nat) := lw_tbl.findSome? fun w => match w with
  | .fieldLink o i r n d => if o = pv_own M ∧ i = idx then (pv_find r).bind fun ci => match pv_cls[ci]? with
      | some q => ((List.range q.2.2).find? fun k => decide (q.2.1 k = (r, n, d, (q.2.1 k).2.2.2))).map fun k => (ci, k)
      | none => none
    else none
  | _ => none
def pv_kc (M idx : Nat) : Option Int32 := lw_tbl.findSome? fun w => match w with
  | .constant o i v => if o = pv_own M ∧ i = idx then some v else none
  | _ => none
def pv_kd (M idx : Nat) : Option Int64 := lw_tbl.findSome? fun w => match w with
  | .constantLong o i v => if o = pv_own M ∧ i = idx then some v else none
  | _ => none
def pv_tx : List String := ["posts", "third", "angle", "corner", "weight", "place", "circle", "sum", "to"]
def pv_len : List Nat := [5, 5, 5, 6, 6, 5, 6, 3, 2]
def pv_byt : List (List Int32) := [[112, 111, 115, 116, 115], [116, 104, 105, 114, 100], [97, 110, 103, 108, 101], [99, 111, 114, 110, 101, 114], [119, 101, 105, 103, 104, 116], [112, 108, 97, 99, 101], [99, 105, 114, 99, 108, 101], [115, 117, 109], [116, 111]]
def pv_ks (M idx : Nat) : Option Nat := lw_tbl.findSome? fun w => match w with
  | .stringRef o i t => if o = pv_own M ∧ i = idx then (List.range 9).find? (fun k => decide (pv_tx[k]? = some t)) else none
  | _ => none
def pv_si (K : Nat → Nat) (b : Nat) : Option Nat := (List.range 9).find? fun i => decide (K i = b)
abbrev pv_cpn : MethodName := arraycopyName
def pv_sln : MethodName := ⟨"java/lang/String", "length", "()I"⟩
def pv_scn : MethodName := ⟨"java/lang/String", "charAt", "(I)C"⟩
/-- a method by its entry: its name, and the nest's host if it is a nest mate's -/
def pv_ml (M idx : Nat) : Option (MethodName × Option String) := lw_tbl.findSome? fun w => match w with
  | .methodLink o i y => if o = pv_own M ∧ i = idx then some (y, none) else none
  | .methodLinkNest o i y s => if o = pv_own M ∧ i = idx then some (y, some s) else none
  | _ => none
def pv_ix (y : MethodName) : Option Nat := pv_ms.findIdx? fun q => decide (q.1 = y)
def pv_np (M : Nat) : Nat := match parseMethodDescriptor (pv_y M).desc with
  | some sig => sig.parameters.length
  | none => 0
def pv_fr (M : Nat) : Nat := (pv_rms.getD M (0, 0)).1
def pv_lo (M : Nat) : Nat := (pv_rms.getD M (0, 0)).2
/-- what must be so of a call of M' in M -/
def pv_okB (M M' : Nat) : Bool := decide ((pv_y M').cls ≠ "java/lang/invoke/MethodHandle") && decide ((pv_y M').cls ≠ "java/lang/invoke/VarHandle") && decide ((parseMethodDescriptor (pv_y M').desc).map (fun d => d.parameters.length) = some (pv_np M')) && decide (pv_fr M' + 1 ≤ pv_fr M) && decide (8 + (pv_mL M' + 11) + pv_lo M' ≤ pv_lo M) && plainName (pv_y M').cls && decide (Cond.initialized (pv_y M').cls ∈ lw_tbl) && decide (M' < pv_ms.length)
def pv_okV (M M' : Nat) : Bool := pv_okB M M' && decide (Cond.instanceMethod (pv_y M') ∈ lw_tbl) && decide (Cond.selects (pv_y M').cls (pv_y M') (pv_y M') ∈ lw_tbl)
def pv_okS (M M' : Nat) : Bool := pv_okB M M' && decide (Cond.static (pv_y M') ∈ lw_tbl)
def pv_okC (M : Nat) : Bool := decide (Cond.native pv_cpn ∈ lw_tbl) && decide (Cond.static pv_cpn ∈ lw_tbl) && decide (Cond.initialized "java/lang/System" ∈ lw_tbl) && decide (1 ≤ pv_fr M) && decide (60 ≤ pv_lo M)
def pv_okL (M : Nat) : Bool := decide (5 ≤ pv_fr M) && decide (110 ≤ pv_lo M)
/-- a call: the method, its arguments, what is left on the stack -/
def pv_cs (M : Nat) (i : Instr) (st : List Value) (h : pv_H) : Option (Nat × List Value × List Value) := match i with
  | .invokevirtual idx => match pv_ml M idx with
    | some (y, none) => match pv_ix y with
      | some M' => match st.drop (pv_np M') with
        | .ref b :: r => match h b with
          | some (.inr (ci, _)) => if pv_find (pv_own M') = some ci ∧ pv_okV M M' = true ∧ (r.map fun v => v.category).sum ≤ 8 ∧ (st.take (pv_np M')).length = pv_np M' ∧ (lg_sl (.ref b :: (st.take (pv_np M')).reverse)).length ≤ pv_mL M' then some (M', .ref b :: (st.take (pv_np M')).reverse, r) else none
          | _ => none
        | _ => none
      | none => none
    | _ => none
  | .invokestatic idx => match pv_ml M idx with
    | some (y, _) => match pv_ix y with
      | some M' => if pv_okS M M' = true ∧ ((st.drop (pv_np M')).map fun v => v.category).sum ≤ 8 ∧ (st.take (pv_np M')).length = pv_np M' ∧ (lg_sl (st.take (pv_np M')).reverse).length ≤ pv_mL M' then some (M', (st.take (pv_np M')).reverse, st.drop (pv_np M')) else none
      | none => none
    | none => none
  | _ => none
/-- a return -/
def pv_re (M : Nat) (i : Instr) (st : List Value) : Option (Option Value) := match i with
  | .ireturn => match st with
    | [.int v] => if pv_rt M = some .int then some (some (.int v)) else if pv_rt M = some .boolean ∧ narrow .boolean (.int v) = .int v then some (some (.int v)) else none
    | _ => none
  | .lreturn => match st with
    | [.long v] => if pv_rt M = some .long then some (some (.long v)) else none
    | _ => none
  | .return_ => match st with
    | [] => if pv_rt M = none then some none else none
    | _ => none
  | _ => none
def pv_in (i : Int32) (n : Nat) : Bool := decide (¬ i < 0) && decide (i.toNatClampNeg < n)
/-- one step on cells -/
def pv_sh (K : Nat → Nat) (M pc : Nat) (i : Instr) (st : List Value) (h : pv_H) : Option (Nat × List Value × pv_H) := match i with
  | .getfield idx => match st with
    | .ref a :: r => match pv_gf M idx with
      | some (ci, k) => match h a with
        | some (.inr (cj, fs)) => if cj = ci then (match fs[k]? with
            | some v => some (pc + 3, v :: r, h)
            | none => none) else none
        | _ => none
      | none => none
    | _ => none
  | .putfield idx => match st with
    | v :: .ref a :: r => match pv_gf M idx with
      | some (ci, k) => match h a with
        | some (.inr (cj, fs)) => match pv_cls[ci]? with
          | some q => match parseFieldDescriptor (q.2.1 k).2.2.1 with
            | some ty => if cj = ci ∧ (q.2.1 k).2.2.2 = false ∧ narrow ty v = v ∧ fits ty v = true ∧ k < fs.length ∧ refKind ty = false then some (pc + 3, r, pv_set h a (.inr (ci, fs.set k v))) else none
            | none => none
          | none => none
        | _ => none
      | none => none
    | _ => none
  | .iaload => match st with
    | .int j :: .ref a :: r => match h a with
      | some (.inl (0, n, .inl f)) => if pv_in j n = true then some (pc + 1, .int (f j.toNatClampNeg) :: r, h) else none
      | _ => none
    | _ => none
  | .laload => match st with
    | .int j :: .ref a :: r => match h a with
      | some (.inl (1, n, .inr (.inl f))) => if pv_in j n = true then some (pc + 1, .long (f j.toNatClampNeg) :: r, h) else none
      | _ => none
    | _ => none
  | .baload => match st with
    | .int j :: .ref a :: r => match h a with
      | some (.inl (2, n, .inl f)) => if pv_in j n = true then some (pc + 1, .int (f j.toNatClampNeg) :: r, h) else none
      | some (.inl (3, n, .inl f)) => if pv_in j n = true then some (pc + 1, .int (f j.toNatClampNeg) :: r, h) else none
      | _ => none
    | _ => none
  | .aaload => match st with
    | .int j :: .ref a :: r => match h a with
      | some (.inl (4, n, .inr (.inr (.inr (.inr f))))) => if pv_in j n = true then some (pc + 1, va_rf (f j.toNatClampNeg) :: r, h) else none
      | some (.inl (5, n, .inr (.inr (.inr (.inr f))))) => if pv_in j n = true then some (pc + 1, va_rf (f j.toNatClampNeg) :: r, h) else none
      | _ => none
    | _ => none
  | .iastore => match st with
    | .int x :: .int j :: .ref a :: r => match h a with
      | some (.inl (0, n, .inl f)) => if pv_in j n = true then some (pc + 1, r, pv_set h a (.inl (0, n, .inl (upd f j.toNatClampNeg x)))) else none
      | _ => none
    | _ => none
  | .lastore => match st with
    | .long x :: .int j :: .ref a :: r => match h a with
      | some (.inl (1, n, .inr (.inl f))) => if pv_in j n = true then some (pc + 1, r, pv_set h a (.inl (1, n, .inr (.inl (vp_updL f j.toNatClampNeg x))))) else none
      | _ => none
    | _ => none
  | .bastore => match st with
    | .int x :: .int j :: .ref a :: r => match h a with
      | some (.inl (2, n, .inl f)) => if pv_in j n = true then some (pc + 1, r, pv_set h a (.inl (2, n, .inl (upd f j.toNatClampNeg (vp_nar .byte x))))) else none
      | some (.inl (3, n, .inl f)) => if pv_in j n = true then some (pc + 1, r, pv_set h a (.inl (3, n, .inl (upd f j.toNatClampNeg (vp_nar .boolean x))))) else none
      | _ => none
    | _ => none
  | .arraylength => match st with
    | .ref a :: r => match h a with
      | some (.inl (0, x)) => some (pc + 1, .int (Int32.ofNat x.1) :: r, h)
      | some (.inl (1, x)) => some (pc + 1, .int (Int32.ofNat x.1) :: r, h)
      | _ => none
    | _ => none
  | .ldc idx => match pv_kc M idx with
    | some v => some (pc + 2, .int v :: st, h)
    | none => match pv_ks M idx with
      | some k => some (pc + 2, .ref (K k) :: st, h)
      | none => none
  | .ldc_w idx => match pv_kc M idx with
    | some v => some (pc + 3, .int v :: st, h)
    | none => none
  | .ldc2_w idx => match pv_kd M idx with
    | some v => some (pc + 3, .long v :: st, h)
    | none => none
  | .invokevirtual idx => match pv_ml M idx with
    | some (y, none) => if y = pv_sln then (match st with
        | .ref b :: r => match pv_si K b with
          | some k => if pv_okL M = true ∧ (r.map fun v => v.category).sum ≤ 8 then some (pc + 3, .int (nI (pv_len.getD k 0)) :: r, h) else none
          | none => none
        | _ => none) else if y = pv_scn then (match st with
        | .int j :: .ref b :: r => match pv_si K b with
          | some k => if pv_okL M = true ∧ (r.map fun v => v.category).sum ≤ 8 ∧ pv_in j (pv_len.getD k 0) = true then some (pc + 3, .int ((pv_byt.getD k []).getD j.toNatClampNeg 0 &&& 255) :: r, h) else none
          | none => none
        | _ => none) else none
    | _ => none
  | .invokestatic idx => match pv_ml M idx with
    | some (y, none) => if y = pv_cpn ∧ pv_okC M = true then (match st with
        | .int n :: .int dp :: .ref a :: .int sp :: .ref a0 :: r => if (r.map fun v => v.category).sum ≤ 8 ∧ ¬ sp < 0 ∧ ¬ dp < 0 ∧ ¬ n < 0 then (match h a0, h a with
          | some (.inl (0, n0, .inl f)), some (.inl (0, n1, .inl g)) => if sp.toNatClampNeg + n.toNatClampNeg ≤ n0 ∧ dp.toNatClampNeg + n.toNatClampNeg ≤ n1 then some (pc + 3, r, pv_set h a (.inl (0, n1, .inl (va_cpy f g sp.toNatClampNeg dp.toNatClampNeg n.toNatClampNeg)))) else none
          | some (.inl (1, n0, .inr (.inl f))), some (.inl (1, n1, .inr (.inl g))) => if sp.toNatClampNeg + n.toNatClampNeg ≤ n0 ∧ dp.toNatClampNeg + n.toNatClampNeg ≤ n1 then some (pc + 3, r, pv_set h a (.inl (1, n1, .inr (.inl (va_cpy f g sp.toNatClampNeg dp.toNatClampNeg n.toNatClampNeg))))) else none
          | _, _ => none) else none
        | _ => none) else none
    | _ => none
  | _ => none
/-- THE MACHINE, n steps deep at most -/
def pv_ev (K : Nat → Nat) : Nat → Nat → Nat → pv_F → List Value → pv_H → Option (Option Value × pv_H)
  | 0, _, _, _, _, _ => none
  | n + 1, M, pc, f, st, h => match pv_dec M pc with
    | none => none
    | some (i, len) => if pv_ln i len = true then (match pv_sp (pv_mL M) pc f i st with
      | some (pc', f', st') => pv_ev K n M pc' f' st' h
      | none => match pv_sh K M pc i st h with
        | some (pc', st', h') => pv_ev K n M pc' f st' h'
        | none => match pv_re M i st with
          | some r => some (r, h)
          | none => match pv_cs M i st h with
            | some (M', as, rest) => (match pv_ev K n M' 0 (pv_en as) [] h with
              | some (r, h') => pv_ev K n M (pc + 3) f (r.toList ++ rest) h'
              | none => none)
            | none => none) else none
theorem pv_ev_mono (K : Nat → Nat) : ∀ (n M pc : Nat) (f : pv_F) (st : List Value) (h : pv_H) (x : Option Value × pv_H), pv_ev K n M pc f st h = some x → ∀ m, n ≤ m → pv_ev K m M pc f st h = some x := by
  intro n
  induction n with
  | zero => intro M pc f st h x hx; cases hx
  | succ n ih =>
    intro M pc f st h x hx m hm
    obtain ⟨m, rfl⟩ : ∃ k, m = k + 1 := ⟨m - 1, by omega⟩
    have hnm : n ≤ m := by omega
    rw [pv_ev] at hx ⊢
    split at hx
    · cases hx
    · rename_i i len hd
      split at hx
      · rename_i hl
        rw [if_pos hl]
        split at hx
        · exact ih _ _ _ _ _ _ hx m hnm
        · split at hx
          · exact ih _ _ _ _ _ _ hx m hnm
          · split at hx
            · exact hx
            · split at hx
              · rename_i M' as rest hc
                split at hx
                · rename_i r h' hr
                  rw [ih _ _ _ _ _ _ hr m hnm]
                  exact ih _ _ _ _ _ _ hx m hnm
                · cases hx
              · cases hx
      · cases hx
end
section
theorem pv_tg_spec {pc : Nat} {o : Int} {t : Nat} (h : pv_tg pc o = some t) : (pc : Int) + o = (t : Int) := by
  unfold pv_tg at h
  split at h
  · rename_i t' ht
    cases h
    exact ht
  · cases h
/-- the real locals hold what the plain ones say -/
def pv_L (f : pv_F) (ls : Array Slot) (nL : Nat) : Prop := ls.size = nL ∧ lv_wf ls ∧ ∀ i v, f i = some v → ls[i]? = some (.val v)
def pv_ps (f : pv_F) (nL : Nat) : List (Nat × Value) := (List.range nL).filterMap fun i => (f i).map fun v => (i, v)
theorem pv_L.lt {f : pv_F} {ls : Array Slot} {nL i : Nat} {v : Value} (h : pv_L f ls nL) (hf : f i = some v) : i < nL := by
  have := h.2.2 i v hf
  have h2 := (Array.getElem?_eq_some_iff.mp this).1
  rw [h.1] at h2
  exact h2
theorem pv_L.mem {f : pv_F} {ls : Array Slot} {nL i : Nat} {v : Value} (h : pv_L f ls nL) (hf : f i = some v) : (i, v) ∈ pv_ps f nL := List.mem_filterMap.mpr ⟨i, List.mem_range.mpr (h.lt hf), by rw [hf]; rfl⟩
theorem pv_L.has {f : pv_F} {ls : Array Slot} {nL : Nat} (h : pv_L f ls nL) : lv_has ls nL (pv_ps f nL) := by
  refine ⟨h.1, h.2.1, fun q hq => ?_⟩
  obtain ⟨i, hi, e⟩ := List.mem_filterMap.mp hq
  cases hv : f i with
  | none => rw [hv] at e; cases e
  | some v => rw [hv] at e; cases e; exact h.2.2 _ _ hv
theorem pv_L.up1 {f : pv_F} {ls ls' : Array Slot} {nL i : Nat} {v : Value} (h : pv_L f ls nL) (h' : lv_has ls' nL ((i, v) :: (pv_ps f nL).filter (fun q => !(q.1 == i) && !(q.1 + 1 == i && q.2.category == 2)))) : pv_L (pv_up1 f i v) ls' nL := by
  refine ⟨h'.1, h'.2.1, fun j w hw => ?_⟩
  unfold pv_up1 at hw
  by_cases hj : j = i
  · rw [if_pos hj] at hw
    cases hw
    subst hj
    exact h'.2.2 (j, v) List.mem_cons_self
  · rw [if_neg hj] at hw
    split at hw
    · rename_i w' hw'
      split at hw
      · cases hw
      · rename_i hn
        cases hw
        refine h'.2.2 (j, w) (List.mem_cons_of_mem _ (List.mem_filter.mpr ⟨h.mem hw', ?_⟩))
        simp only [Bool.and_eq_true, Bool.not_eq_true', beq_eq_false_iff_ne, ne_eq, hj, not_false_eq_true, true_and]
        cases hb : (j + 1 == i && w.category == 2) with
        | false => rfl
        | true =>
          simp only [Bool.and_eq_true, beq_iff_eq] at hb
          exact absurd hb hn
    · cases hw
theorem pv_L.up2 {f : pv_F} {ls ls' : Array Slot} {nL i : Nat} {v : Value} (h : pv_L f ls nL) (h' : lv_has ls' nL ((i, v) :: (pv_ps f nL).filter (fun q => !(q.1 == i) && (!(q.1 == i + 1) && !(q.1 + 1 == i && q.2.category == 2))))) : pv_L (pv_up2 f i v) ls' nL := by
  refine ⟨h'.1, h'.2.1, fun j w hw => ?_⟩
  unfold pv_up2 at hw
  by_cases hj : j = i
  · rw [if_pos hj] at hw
    cases hw
    subst hj
    exact h'.2.2 (j, v) List.mem_cons_self
  · rw [if_neg hj] at hw
    by_cases hj1 : j = i + 1
    · rw [if_pos hj1] at hw
      cases hw
    rw [if_neg hj1] at hw
    split at hw
    · rename_i w' hw'
      split at hw
      · cases hw
      · rename_i hn
        cases hw
        refine h'.2.2 (j, w) (List.mem_cons_of_mem _ (List.mem_filter.mpr ⟨h.mem hw', ?_⟩))
        simp only [Bool.and_eq_true, Bool.not_eq_true', beq_eq_false_iff_ne, ne_eq, hj, hj1, not_false_eq_true, true_and]
        cases hb : (j + 1 == i && w.category == 2) with
        | false => rfl
        | true =>
          simp only [Bool.and_eq_true, beq_iff_eq] at hb
          exact absurd hb hn
    · cases hw
section SP
variable {p : Program} {l : Launch} {e : Env} {R : Room} {s : State} {m : MethodId} {args : Array Value} {below : List Frame} {meth : Method} {c : Code} {H : Heap} {locs : List Loc} {cells slots : Nat} {Q : State → Prop}
set_option maxHeartbeats 8000000 in
set_option maxRecDepth 20000 in
theorem pv_simP {cc : ByteArray} {pc pc' len nL : Nat} {f f' : pv_F} {st st' : List Value} {i : Instr} {ls : Array Slot} (hx : p.tables.exec = Jvm.exec) (hb : c.code = cc) (hdg : decode cc pc = .ok (i, len)) (hlen : pv_ln i len = true) (hs : pv_sp nL pc f i st = some (pc', f', st')) (hl : pv_L f ls nL)
    (k : ∀ ls', pv_L f' ls' nL → W p l e R s m args below meth c H locs cells slots Q (F0 m pc' ls' st')) : W p l e R s m args below meth c H locs cells slots Q (F0 m pc ls st) := by
  cases i with
  | iadd =>
    simp only [pv_sp] at hs
    split at hs
    · simp only [Option.some.injEq, Prod.mk.injEq] at hs
      obtain ⟨rfl, rfl, rfl⟩ := hs
      obtain rfl : len = 1 := by simpa [pv_ln] using hlen
      exact lv_iadd hx hb hdg (k _ hl)
    · cases hs
  | isub =>
    simp only [pv_sp] at hs
    split at hs
    · simp only [Option.some.injEq, Prod.mk.injEq] at hs
      obtain ⟨rfl, rfl, rfl⟩ := hs
      obtain rfl : len = 1 := by simpa [pv_ln] using hlen
      exact lv_isub hx hb hdg (k _ hl)
    · cases hs
  | imul =>
    simp only [pv_sp] at hs
    split at hs
    · simp only [Option.some.injEq, Prod.mk.injEq] at hs
      obtain ⟨rfl, rfl, rfl⟩ := hs
      obtain rfl : len = 1 := by simpa [pv_ln] using hlen
      exact lv_imul hx hb hdg (k _ hl)
    · cases hs
  | iand =>
    simp only [pv_sp] at hs
    split at hs
    · simp only [Option.some.injEq, Prod.mk.injEq] at hs
      obtain ⟨rfl, rfl, rfl⟩ := hs
      obtain rfl : len = 1 := by simpa [pv_ln] using hlen
      exact lv_iand hx hb hdg (k _ hl)
    · cases hs
  | ior =>
    simp only [pv_sp] at hs
    split at hs
    · simp only [Option.some.injEq, Prod.mk.injEq] at hs
      obtain ⟨rfl, rfl, rfl⟩ := hs
      obtain rfl : len = 1 := by simpa [pv_ln] using hlen
      exact lv_ior hx hb hdg (k _ hl)
    · cases hs
  | ixor =>
    simp only [pv_sp] at hs
    split at hs
    · simp only [Option.some.injEq, Prod.mk.injEq] at hs
      obtain ⟨rfl, rfl, rfl⟩ := hs
      obtain rfl : len = 1 := by simpa [pv_ln] using hlen
      exact lv_ixor hx hb hdg (k _ hl)
    · cases hs
  | ishl =>
    simp only [pv_sp] at hs
    split at hs
    · simp only [Option.some.injEq, Prod.mk.injEq] at hs
      obtain ⟨rfl, rfl, rfl⟩ := hs
      obtain rfl : len = 1 := by simpa [pv_ln] using hlen
      exact lv_ishl hx hb hdg (k _ hl)
    · cases hs
  | ishr =>
    simp only [pv_sp] at hs
    split at hs
    · simp only [Option.some.injEq, Prod.mk.injEq] at hs
      obtain ⟨rfl, rfl, rfl⟩ := hs
      obtain rfl : len = 1 := by simpa [pv_ln] using hlen
      exact lv_ishr hx hb hdg (k _ hl)
    · cases hs
  | ineg =>
    simp only [pv_sp] at hs
    split at hs
    · simp only [Option.some.injEq, Prod.mk.injEq] at hs
      obtain ⟨rfl, rfl, rfl⟩ := hs
      obtain rfl : len = 1 := by simpa [pv_ln] using hlen
      exact lv_ineg hx hb hdg (k _ hl)
    · cases hs
  | ladd =>
    simp only [pv_sp] at hs
    split at hs
    · simp only [Option.some.injEq, Prod.mk.injEq] at hs
      obtain ⟨rfl, rfl, rfl⟩ := hs
      obtain rfl : len = 1 := by simpa [pv_ln] using hlen
      exact lv_ladd hx hb hdg (k _ hl)
    · cases hs
  | lsub =>
    simp only [pv_sp] at hs
    split at hs
    · simp only [Option.some.injEq, Prod.mk.injEq] at hs
      obtain ⟨rfl, rfl, rfl⟩ := hs
      obtain rfl : len = 1 := by simpa [pv_ln] using hlen
      exact lv_lsub hx hb hdg (k _ hl)
    · cases hs
  | lmul =>
    simp only [pv_sp] at hs
    split at hs
    · simp only [Option.some.injEq, Prod.mk.injEq] at hs
      obtain ⟨rfl, rfl, rfl⟩ := hs
      obtain rfl : len = 1 := by simpa [pv_ln] using hlen
      exact lv_lmul hx hb hdg (k _ hl)
    · cases hs
  | land =>
    simp only [pv_sp] at hs
    split at hs
    · simp only [Option.some.injEq, Prod.mk.injEq] at hs
      obtain ⟨rfl, rfl, rfl⟩ := hs
      obtain rfl : len = 1 := by simpa [pv_ln] using hlen
      exact lv_land hx hb hdg (k _ hl)
    · cases hs
  | lor =>
    simp only [pv_sp] at hs
    split at hs
    · simp only [Option.some.injEq, Prod.mk.injEq] at hs
      obtain ⟨rfl, rfl, rfl⟩ := hs
      obtain rfl : len = 1 := by simpa [pv_ln] using hlen
      exact lv_lor hx hb hdg (k _ hl)
    · cases hs
  | lneg =>
    simp only [pv_sp] at hs
    split at hs
    · simp only [Option.some.injEq, Prod.mk.injEq] at hs
      obtain ⟨rfl, rfl, rfl⟩ := hs
      obtain rfl : len = 1 := by simpa [pv_ln] using hlen
      exact lv_lneg hx hb hdg (k _ hl)
    · cases hs
  | iushr =>
    simp only [pv_sp] at hs
    split at hs
    · simp only [Option.some.injEq, Prod.mk.injEq] at hs
      obtain ⟨rfl, rfl, rfl⟩ := hs
      obtain rfl : len = 1 := by simpa [pv_ln] using hlen
      exact lv_iushr hx hb hdg rfl (k _ hl)
    · cases hs
  | lshl =>
    simp only [pv_sp] at hs
    split at hs
    · simp only [Option.some.injEq, Prod.mk.injEq] at hs
      obtain ⟨rfl, rfl, rfl⟩ := hs
      obtain rfl : len = 1 := by simpa [pv_ln] using hlen
      exact lv_lshl hx hb hdg rfl (k _ hl)
    · cases hs
  | lshr =>
    simp only [pv_sp] at hs
    split at hs
    · simp only [Option.some.injEq, Prod.mk.injEq] at hs
      obtain ⟨rfl, rfl, rfl⟩ := hs
      obtain rfl : len = 1 := by simpa [pv_ln] using hlen
      exact lv_lshr hx hb hdg rfl (k _ hl)
    · cases hs
  | i2l =>
    simp only [pv_sp] at hs
    split at hs
    · simp only [Option.some.injEq, Prod.mk.injEq] at hs
      obtain ⟨rfl, rfl, rfl⟩ := hs
      obtain rfl : len = 1 := by simpa [pv_ln] using hlen
      exact lv_i2l hx hb hdg rfl (k _ hl)
    · cases hs
  | l2i =>
    simp only [pv_sp] at hs
    split at hs
    · simp only [Option.some.injEq, Prod.mk.injEq] at hs
      obtain ⟨rfl, rfl, rfl⟩ := hs
      obtain rfl : len = 1 := by simpa [pv_ln] using hlen
      exact lv_l2i hx hb hdg rfl (k _ hl)
    · cases hs
  | i2b =>
    simp only [pv_sp] at hs
    split at hs
    · simp only [Option.some.injEq, Prod.mk.injEq] at hs
      obtain ⟨rfl, rfl, rfl⟩ := hs
      obtain rfl : len = 1 := by simpa [pv_ln] using hlen
      exact lv_i2b hx hb hdg rfl (k _ hl)
    · cases hs
  | i2s =>
    simp only [pv_sp] at hs
    split at hs
    · simp only [Option.some.injEq, Prod.mk.injEq] at hs
      obtain ⟨rfl, rfl, rfl⟩ := hs
      obtain rfl : len = 1 := by simpa [pv_ln] using hlen
      exact lv_i2s hx hb hdg rfl (k _ hl)
    · cases hs
  | lcmp =>
    simp only [pv_sp] at hs
    split at hs
    · simp only [Option.some.injEq, Prod.mk.injEq] at hs
      obtain ⟨rfl, rfl, rfl⟩ := hs
      obtain rfl : len = 1 := by simpa [pv_ln] using hlen
      exact W.lcmp hx hb hdg (k _ hl)
    · cases hs
  | idiv =>
    simp only [pv_sp] at hs
    split at hs
    · split at hs
      · cases hs
      · rename_i hne
        simp only [Option.some.injEq, Prod.mk.injEq] at hs
        obtain ⟨rfl, rfl, rfl⟩ := hs
        obtain rfl : len = 1 := by simpa [pv_ln] using hlen
        exact lv_idiv hx hb hdg hne (k _ hl)
    · cases hs
  | irem =>
    simp only [pv_sp] at hs
    split at hs
    · split at hs
      · cases hs
      · rename_i hne
        simp only [Option.some.injEq, Prod.mk.injEq] at hs
        obtain ⟨rfl, rfl, rfl⟩ := hs
        obtain rfl : len = 1 := by simpa [pv_ln] using hlen
        exact lv_irem hx hb hdg hne (k _ hl)
    · cases hs
  | ldiv =>
    simp only [pv_sp] at hs
    split at hs
    · split at hs
      · cases hs
      · rename_i hne
        simp only [Option.some.injEq, Prod.mk.injEq] at hs
        obtain ⟨rfl, rfl, rfl⟩ := hs
        obtain rfl : len = 1 := by simpa [pv_ln] using hlen
        exact lv_ldiv hx hb hdg hne (k _ hl)
    · cases hs
  | lrem =>
    simp only [pv_sp] at hs
    split at hs
    · split at hs
      · cases hs
      · rename_i hne
        simp only [Option.some.injEq, Prod.mk.injEq] at hs
        obtain ⟨rfl, rfl, rfl⟩ := hs
        obtain rfl : len = 1 := by simpa [pv_ln] using hlen
        exact lv_lrem hx hb hdg hne (k _ hl)
    · cases hs
  | iconst n =>
    simp only [pv_sp, Option.some.injEq, Prod.mk.injEq] at hs
    obtain ⟨rfl, rfl, rfl⟩ := hs
    obtain rfl : len = 1 := by simpa [pv_ln] using hlen
    exact lv_iconst hx hb hdg rfl (k _ hl)
  | bipush n =>
    simp only [pv_sp, Option.some.injEq, Prod.mk.injEq] at hs
    obtain ⟨rfl, rfl, rfl⟩ := hs
    obtain rfl : len = 2 := by simpa [pv_ln] using hlen
    exact lv_bipush hx hb hdg rfl (k _ hl)
  | sipush n =>
    simp only [pv_sp, Option.some.injEq, Prod.mk.injEq] at hs
    obtain ⟨rfl, rfl, rfl⟩ := hs
    obtain rfl : len = 3 := by simpa [pv_ln] using hlen
    exact lv_sipush hx hb hdg rfl (k _ hl)
  | lconst n =>
    simp only [pv_sp, Option.some.injEq, Prod.mk.injEq] at hs
    obtain ⟨rfl, rfl, rfl⟩ := hs
    obtain rfl : len = 1 := by simpa [pv_ln] using hlen
    exact lv_lconst hx hb hdg rfl (k _ hl)
  | iload_n n =>
    simp only [pv_sp] at hs
    split at hs
    · rename_i x hfx
      simp only [Option.some.injEq, Prod.mk.injEq] at hs
      obtain ⟨rfl, rfl, rfl⟩ := hs
      obtain rfl : len = 1 := by simpa [pv_ln] using hlen
      exact lv_iload_n hx hb hdg rfl (hl.2.2 _ _ hfx) (k _ hl)
    · cases hs
  | iload n =>
    simp only [pv_sp] at hs
    split at hs
    · rename_i x hfx
      simp only [Option.some.injEq, Prod.mk.injEq] at hs
      obtain ⟨rfl, rfl, rfl⟩ := hs
      obtain rfl : len = 2 := by simpa [pv_ln] using hlen
      exact lv_iload hx hb hdg (hl.2.2 _ _ hfx) (k _ hl)
    · cases hs
  | lload_n n =>
    simp only [pv_sp] at hs
    split at hs
    · rename_i x hfx
      simp only [Option.some.injEq, Prod.mk.injEq] at hs
      obtain ⟨rfl, rfl, rfl⟩ := hs
      obtain rfl : len = 1 := by simpa [pv_ln] using hlen
      exact lv_lload_n hx hb hdg rfl (hl.2.2 _ _ hfx) (k _ hl)
    · cases hs
  | lload n =>
    simp only [pv_sp] at hs
    split at hs
    · rename_i x hfx
      simp only [Option.some.injEq, Prod.mk.injEq] at hs
      obtain ⟨rfl, rfl, rfl⟩ := hs
      obtain rfl : len = 2 := by simpa [pv_ln] using hlen
      exact lv_lload hx hb hdg (hl.2.2 _ _ hfx) (k _ hl)
    · cases hs
  | aload_n n =>
    simp only [pv_sp] at hs
    split at hs
    · rename_i x hfx
      simp only [Option.some.injEq, Prod.mk.injEq] at hs
      obtain ⟨rfl, rfl, rfl⟩ := hs
      obtain rfl : len = 1 := by simpa [pv_ln] using hlen
      exact lv_aload_n hx hb hdg rfl (hl.2.2 _ _ hfx) (k _ hl)
    · cases hs
  | aload n =>
    simp only [pv_sp] at hs
    split at hs
    · rename_i x hfx
      simp only [Option.some.injEq, Prod.mk.injEq] at hs
      obtain ⟨rfl, rfl, rfl⟩ := hs
      obtain rfl : len = 2 := by simpa [pv_ln] using hlen
      exact lv_aload hx hb hdg (hl.2.2 _ _ hfx) (k _ hl)
    · cases hs
  | istore_n n =>
    simp only [pv_sp] at hs
    split at hs
    · split at hs
      · rename_i hn
        simp only [Option.some.injEq, Prod.mk.injEq] at hs
        obtain ⟨rfl, rfl, rfl⟩ := hs
        obtain rfl : len = 1 := by simpa [pv_ln] using hlen
        exact lv_istore_n hx hb hdg rfl hl.has hn rfl (fun ls' hl' => k ls' (pv_L.up1 hl hl'))
      · cases hs
    · cases hs
  | istore n =>
    simp only [pv_sp] at hs
    split at hs
    · split at hs
      · rename_i hn
        simp only [Option.some.injEq, Prod.mk.injEq] at hs
        obtain ⟨rfl, rfl, rfl⟩ := hs
        obtain rfl : len = 2 := by simpa [pv_ln] using hlen
        exact lv_istore hx hb hdg hl.has hn rfl (fun ls' hl' => k ls' (pv_L.up1 hl hl'))
      · cases hs
    · cases hs
  | lstore_n n =>
    simp only [pv_sp] at hs
    split at hs
    · split at hs
      · rename_i hn
        simp only [Option.some.injEq, Prod.mk.injEq] at hs
        obtain ⟨rfl, rfl, rfl⟩ := hs
        obtain rfl : len = 1 := by simpa [pv_ln] using hlen
        exact lv_lstore_n hx hb hdg rfl hl.has hn rfl (fun ls' hl' => k ls' (pv_L.up2 hl hl'))
      · cases hs
    · cases hs
  | lstore n =>
    simp only [pv_sp] at hs
    split at hs
    · split at hs
      · rename_i hn
        simp only [Option.some.injEq, Prod.mk.injEq] at hs
        obtain ⟨rfl, rfl, rfl⟩ := hs
        obtain rfl : len = 2 := by simpa [pv_ln] using hlen
        exact lv_lstore hx hb hdg hl.has hn rfl (fun ls' hl' => k ls' (pv_L.up2 hl hl'))
      · cases hs
    · cases hs
  | astore_n n =>
    simp only [pv_sp] at hs
    split at hs
    · split at hs
      · rename_i hn
        simp only [Option.some.injEq, Prod.mk.injEq] at hs
        obtain ⟨rfl, rfl, rfl⟩ := hs
        obtain rfl : len = 1 := by simpa [pv_ln] using hlen
        exact lv_astore_n hx hb hdg rfl hl.has hn rfl (fun ls' hl' => k ls' (pv_L.up1 hl hl'))
      · cases hs
    · cases hs
  | astore n =>
    simp only [pv_sp] at hs
    split at hs
    · split at hs
      · rename_i hn
        simp only [Option.some.injEq, Prod.mk.injEq] at hs
        obtain ⟨rfl, rfl, rfl⟩ := hs
        obtain rfl : len = 2 := by simpa [pv_ln] using hlen
        exact lv_astore hx hb hdg hl.has hn rfl (fun ls' hl' => k ls' (pv_L.up1 hl hl'))
      · cases hs
    · cases hs
  | iinc n z =>
    simp only [pv_sp] at hs
    split at hs
    · rename_i x hfx
      split at hs
      · rename_i hn
        simp only [Option.some.injEq, Prod.mk.injEq] at hs
        obtain ⟨rfl, rfl, rfl⟩ := hs
        obtain rfl : len = 3 := by simpa [pv_ln] using hlen
        obtain ⟨q, hq⟩ := List.getElem?_of_mem (hl.mem hfx)
        exact lv_iinc hx hb hdg hl.has hq rfl hn rfl (fun ls' hl' => k ls' (pv_L.up1 hl hl'))
      · cases hs
    · cases hs
  | dup =>
    simp only [pv_sp] at hs
    split at hs
    · split at hs
      · rename_i hc
        simp only [Option.some.injEq, Prod.mk.injEq] at hs
        obtain ⟨rfl, rfl, rfl⟩ := hs
        obtain rfl : len = 1 := by simpa [pv_ln] using hlen
        exact lv_dup hx hb hdg hc (k _ hl)
      · cases hs
    · cases hs
  | pop =>
    simp only [pv_sp] at hs
    split at hs
    · split at hs
      · rename_i hc
        simp only [Option.some.injEq, Prod.mk.injEq] at hs
        obtain ⟨rfl, rfl, rfl⟩ := hs
        obtain rfl : len = 1 := by simpa [pv_ln] using hlen
        exact lv_pop hx hb hdg hc (k _ hl)
      · cases hs
    · cases hs
  | dup2 =>
    simp only [pv_sp] at hs
    split at hs
    · split at hs
      · rename_i hc
        simp only [Option.some.injEq, Prod.mk.injEq] at hs
        obtain ⟨rfl, rfl, rfl⟩ := hs
        obtain rfl : len = 1 := by simpa [pv_ln] using hlen
        exact lv_dup2_11 hx hb hdg hc.1 hc.2 (k _ hl)
      · cases hs
    · cases hs
  | pop2 =>
    simp only [pv_sp] at hs
    split at hs
    · split at hs
      · rename_i hc
        simp only [Option.some.injEq, Prod.mk.injEq] at hs
        obtain ⟨rfl, rfl, rfl⟩ := hs
        obtain rfl : len = 1 := by simpa [pv_ln] using hlen
        exact lv_pop2_2 hx hb hdg hc (k _ hl)
      · cases hs
    · cases hs
  | goto o =>
    simp only [pv_sp] at hs
    split at hs
    · rename_i t ht
      simp only [Option.some.injEq, Prod.mk.injEq] at hs
      obtain ⟨rfl, rfl, rfl⟩ := hs
      obtain rfl : len = 3 := by simpa [pv_ln] using hlen
      exact lv_goto hx hb hdg (pv_tg_spec ht) (k _ hl)
    · cases hs
  | ifCond cd o =>
    simp only [pv_sp] at hs
    split at hs
    · split at hs
      · rename_i t ht
        obtain rfl : len = 3 := by simpa [pv_ln] using hlen
        cases cd
        · refine lv_if_eq hx hb hdg (pv_tg_spec ht) (fun hc => ?_) (fun hc => ?_)
          · rw [if_pos (by simp [pv_cb]; first | exact hc | simpa using hc)] at hs
            simp only [Option.some.injEq, Prod.mk.injEq] at hs
            obtain ⟨rfl, rfl, rfl⟩ := hs
            exact k _ hl
          · rw [if_neg (by simp [pv_cb]; first | exact hc | simpa using hc)] at hs
            simp only [Option.some.injEq, Prod.mk.injEq] at hs
            obtain ⟨rfl, rfl, rfl⟩ := hs
            exact k _ hl
        · refine lv_if_ne hx hb hdg (pv_tg_spec ht) (fun hc => ?_) (fun hc => ?_)
          · rw [if_pos (by simp [pv_cb]; first | exact hc | simpa using hc)] at hs
            simp only [Option.some.injEq, Prod.mk.injEq] at hs
            obtain ⟨rfl, rfl, rfl⟩ := hs
            exact k _ hl
          · rw [if_neg (by simp [pv_cb]; first | exact hc | simpa using hc)] at hs
            simp only [Option.some.injEq, Prod.mk.injEq] at hs
            obtain ⟨rfl, rfl, rfl⟩ := hs
            exact k _ hl
        · refine lv_if_lt hx hb hdg (pv_tg_spec ht) (fun hc => ?_) (fun hc => ?_)
          · rw [if_pos (by simp [pv_cb]; first | exact hc | simpa using hc)] at hs
            simp only [Option.some.injEq, Prod.mk.injEq] at hs
            obtain ⟨rfl, rfl, rfl⟩ := hs
            exact k _ hl
          · rw [if_neg (by simp [pv_cb]; first | exact hc | simpa using hc)] at hs
            simp only [Option.some.injEq, Prod.mk.injEq] at hs
            obtain ⟨rfl, rfl, rfl⟩ := hs
            exact k _ hl
        · refine lv_if_ge hx hb hdg (pv_tg_spec ht) (fun hc => ?_) (fun hc => ?_)
          · rw [if_pos (by simp [pv_cb]; first | exact hc | simpa using hc)] at hs
            simp only [Option.some.injEq, Prod.mk.injEq] at hs
            obtain ⟨rfl, rfl, rfl⟩ := hs
            exact k _ hl
          · rw [if_neg (by simp [pv_cb]; first | exact hc | simpa using hc)] at hs
            simp only [Option.some.injEq, Prod.mk.injEq] at hs
            obtain ⟨rfl, rfl, rfl⟩ := hs
            exact k _ hl
        · refine lv_if_gt hx hb hdg (pv_tg_spec ht) (fun hc => ?_) (fun hc => ?_)
          · rw [if_pos (by simp [pv_cb]; first | exact hc | simpa using hc)] at hs
            simp only [Option.some.injEq, Prod.mk.injEq] at hs
            obtain ⟨rfl, rfl, rfl⟩ := hs
            exact k _ hl
          · rw [if_neg (by simp [pv_cb]; first | exact hc | simpa using hc)] at hs
            simp only [Option.some.injEq, Prod.mk.injEq] at hs
            obtain ⟨rfl, rfl, rfl⟩ := hs
            exact k _ hl
        · refine lv_if_le hx hb hdg (pv_tg_spec ht) (fun hc => ?_) (fun hc => ?_)
          · rw [if_pos (by simp [pv_cb]; first | exact hc | simpa using hc)] at hs
            simp only [Option.some.injEq, Prod.mk.injEq] at hs
            obtain ⟨rfl, rfl, rfl⟩ := hs
            exact k _ hl
          · rw [if_neg (by simp [pv_cb]; first | exact hc | simpa using hc)] at hs
            simp only [Option.some.injEq, Prod.mk.injEq] at hs
            obtain ⟨rfl, rfl, rfl⟩ := hs
            exact k _ hl
      · cases hs
    · cases hs
  | if_icmp cd o =>
    simp only [pv_sp] at hs
    split at hs
    · split at hs
      · rename_i t ht
        obtain rfl : len = 3 := by simpa [pv_ln] using hlen
        cases cd
        · refine lv_icmp_eq hx hb hdg (pv_tg_spec ht) (fun hc => ?_) (fun hc => ?_)
          · rw [if_pos (by simp [pv_cb]; first | exact hc | simpa using hc)] at hs
            simp only [Option.some.injEq, Prod.mk.injEq] at hs
            obtain ⟨rfl, rfl, rfl⟩ := hs
            exact k _ hl
          · rw [if_neg (by simp [pv_cb]; first | exact hc | simpa using hc)] at hs
            simp only [Option.some.injEq, Prod.mk.injEq] at hs
            obtain ⟨rfl, rfl, rfl⟩ := hs
            exact k _ hl
        · refine lv_icmp_ne hx hb hdg (pv_tg_spec ht) (fun hc => ?_) (fun hc => ?_)
          · rw [if_pos (by simp [pv_cb]; first | exact hc | simpa using hc)] at hs
            simp only [Option.some.injEq, Prod.mk.injEq] at hs
            obtain ⟨rfl, rfl, rfl⟩ := hs
            exact k _ hl
          · rw [if_neg (by simp [pv_cb]; first | exact hc | simpa using hc)] at hs
            simp only [Option.some.injEq, Prod.mk.injEq] at hs
            obtain ⟨rfl, rfl, rfl⟩ := hs
            exact k _ hl
        · refine lv_icmp_lt hx hb hdg (pv_tg_spec ht) (fun hc => ?_) (fun hc => ?_)
          · rw [if_pos (by simp [pv_cb]; first | exact hc | simpa using hc)] at hs
            simp only [Option.some.injEq, Prod.mk.injEq] at hs
            obtain ⟨rfl, rfl, rfl⟩ := hs
            exact k _ hl
          · rw [if_neg (by simp [pv_cb]; first | exact hc | simpa using hc)] at hs
            simp only [Option.some.injEq, Prod.mk.injEq] at hs
            obtain ⟨rfl, rfl, rfl⟩ := hs
            exact k _ hl
        · refine lv_icmp_ge hx hb hdg (pv_tg_spec ht) (fun hc => ?_) (fun hc => ?_)
          · rw [if_pos (by simp [pv_cb]; first | exact hc | simpa using hc)] at hs
            simp only [Option.some.injEq, Prod.mk.injEq] at hs
            obtain ⟨rfl, rfl, rfl⟩ := hs
            exact k _ hl
          · rw [if_neg (by simp [pv_cb]; first | exact hc | simpa using hc)] at hs
            simp only [Option.some.injEq, Prod.mk.injEq] at hs
            obtain ⟨rfl, rfl, rfl⟩ := hs
            exact k _ hl
        · refine lv_icmp_gt hx hb hdg (pv_tg_spec ht) (fun hc => ?_) (fun hc => ?_)
          · rw [if_pos (by simp [pv_cb]; first | exact hc | simpa using hc)] at hs
            simp only [Option.some.injEq, Prod.mk.injEq] at hs
            obtain ⟨rfl, rfl, rfl⟩ := hs
            exact k _ hl
          · rw [if_neg (by simp [pv_cb]; first | exact hc | simpa using hc)] at hs
            simp only [Option.some.injEq, Prod.mk.injEq] at hs
            obtain ⟨rfl, rfl, rfl⟩ := hs
            exact k _ hl
        · refine lv_icmp_le hx hb hdg (pv_tg_spec ht) (fun hc => ?_) (fun hc => ?_)
          · rw [if_pos (by simp [pv_cb]; first | exact hc | simpa using hc)] at hs
            simp only [Option.some.injEq, Prod.mk.injEq] at hs
            obtain ⟨rfl, rfl, rfl⟩ := hs
            exact k _ hl
          · rw [if_neg (by simp [pv_cb]; first | exact hc | simpa using hc)] at hs
            simp only [Option.some.injEq, Prod.mk.injEq] at hs
            obtain ⟨rfl, rfl, rfl⟩ := hs
            exact k _ hl
      · cases hs
    · cases hs
  | tableswitch d lo hi os =>
    simp only [pv_sp] at hs
    split at hs
    · split at hs
      · rename_i hout
        split at hs
        · rename_i t ht
          simp only [Option.some.injEq, Prod.mk.injEq] at hs
          obtain ⟨rfl, rfl, rfl⟩ := hs
          exact lv_tableOut hx hb hdg hout (pv_tg_spec ht) (k _ hl)
        · cases hs
      · rename_i hin
        split at hs
        · rename_i o ho
          split at hs
          · rename_i t ht
            simp only [Option.some.injEq, Prod.mk.injEq] at hs
            obtain ⟨rfl, rfl, rfl⟩ := hs
            exact lv_tableIn hx hb hdg (fun q => hin (Or.inl q)) (fun q => hin (Or.inr q)) ho (pv_tg_spec ht) (k _ hl)
          · cases hs
        · cases hs
    · cases hs
  | lookupswitch d ps =>
    simp only [pv_sp] at hs
    split at hs
    · split at hs
      · rename_i hp
        split at hs
        · rename_i t ht
          simp only [Option.some.injEq, Prod.mk.injEq] at hs
          obtain ⟨rfl, rfl, rfl⟩ := hs
          exact lv_lookup hx hb hdg hp rfl (pv_tg_spec ht) (k _ hl)
        · cases hs
      · cases hs
    · cases hs
  | _ => simp [pv_sp] at hs
end SP
end
section
/-- the words that every method has -/
def pv_big : List Cond := lw_tbl.filter goodWord
def pv_wsM (M : Nat) : List Cond := Cond.code (pv_y M) (pv_bc M) (pv_mL M) (pv_rt M) :: pv_big
abbrev pv_rmM (M : Nat) : Room := { frames := pv_fr M, cells := 0, slots := 0, locals := pv_lo M }
theorem pv_bigmem {w : Cond} (h : w ∈ lw_tbl) (hg : goodWord w = true) : w ∈ pv_big := List.mem_filter.mpr ⟨h, hg⟩
theorem pv_gf_spec {M idx ci k : Nat} (h : pv_gf M idx = some (ci, k)) : ∃ q : vw_C, pv_cls[ci]? = some q ∧ k < q.2.2 ∧ Cond.fieldLink (pv_own M) idx (q.2.1 k).1 (q.2.1 k).2.1 (q.2.1 k).2.2.1 ∈ lw_tbl := by
  obtain ⟨w, hw, he⟩ := List.exists_of_findSome?_eq_some h
  split at he
  · rename_i o i r n d
    split at he
    · rename_i hc
      obtain ⟨rfl, rfl⟩ := hc
      cases hf : pv_find r with
      | none => rw [hf] at he; cases he
      | some cj =>
        rw [hf] at he
        simp only [Option.bind_some] at he
        split at he
        · rename_i q hq
          cases hk : (List.range q.2.2).find? fun k => decide (q.2.1 k = (r, n, d, (q.2.1 k).2.2.2)) with
          | none => rw [hk] at he; cases he
          | some k' =>
            rw [hk] at he
            simp only [Option.map_some, Option.some.injEq, Prod.mk.injEq] at he
            obtain ⟨rfl, rfl⟩ := he
            have h1 := List.find?_some hk
            have h2 := List.mem_of_find?_eq_some hk
            simp only [decide_eq_true_eq] at h1
            refine ⟨q, hq, List.mem_range.mp h2, ?_⟩
            rw [h1]
            exact hw
        · cases he
    · cases he
  · cases he
theorem pv_kc_spec {M idx : Nat} {v : Int32} (h : pv_kc M idx = some v) : Cond.constant (pv_own M) idx v ∈ lw_tbl := by
  obtain ⟨w, hw, he⟩ := List.exists_of_findSome?_eq_some h
  split at he
  · split at he
    · rename_i hc
      obtain ⟨rfl, rfl⟩ := hc
      cases he
      exact hw
    · cases he
  · cases he
theorem pv_kd_spec {M idx : Nat} {v : Int64} (h : pv_kd M idx = some v) : Cond.constantLong (pv_own M) idx v ∈ lw_tbl := by
  obtain ⟨w, hw, he⟩ := List.exists_of_findSome?_eq_some h
  split at he
  · split at he
    · rename_i hc
      obtain ⟨rfl, rfl⟩ := hc
      cases he
      exact hw
    · cases he
  · cases he
theorem pv_ml_spec {M idx : Nat} {y : MethodName} {o : Option String} (h : pv_ml M idx = some (y, o)) : (o = none ∧ Cond.methodLink (pv_own M) idx y ∈ lw_tbl) ∨ ∃ z, o = some z ∧ Cond.methodLinkNest (pv_own M) idx y z ∈ lw_tbl := by
  obtain ⟨w, hw, he⟩ := List.exists_of_findSome?_eq_some h
  split at he
  · split at he
    · rename_i hc
      obtain ⟨rfl, rfl⟩ := hc
      cases he
      exact Or.inl ⟨rfl, hw⟩
    · cases he
  · split at he
    · rename_i hc
      obtain ⟨rfl, rfl⟩ := hc
      cases he
      exact Or.inr ⟨_, rfl, hw⟩
    · cases he
  · cases he
theorem pv_lays_good (C : String) (T : u_T) (k : Nat) : goodWord (u_lay C T k) = true := by
  unfold u_lay
  split <;> rfl
theorem pv_cls_big {ci : Nat} {q : vw_C} (h : pv_cls[ci]? = some q) : ∀ w ∈ u_ws q.1 q.2.1 q.2.2, w ∈ pv_big := by
  intro w hw
  refine pv_bigmem ((pv_clsok ci q h).1 w hw) ?_
  obtain ⟨k, -, rfl⟩ := List.mem_map.mp hw
  exact pv_lays_good _ _ _
/-- cells -/
def pv_c (dA : Nat → ClassId) (e : pv_E) : va_E := match e with
  | .inl x => .inl (dA x.1, x.2)
  | .inr o => .inr o
def pv_R (dA : Nat → ClassId) (h : pv_H) (ws : va_W) : Prop := ∀ a e, h a = some e → ∃ k : Nat, ws[k]? = some (a, pv_c dA e)
theorem pv_R.set {dA : Nat → ClassId} {h : pv_H} {ws : va_W} {A : Nat → Prop} {a q0 : Nat} {e0 : va_E} {e : pv_E} (hR : pv_R dA h ws) (hD : va_D A ws) (h0 : ws[q0]? = some (a, e0)) : pv_R dA (pv_set h a e) (ws.set q0 (a, pv_c dA e)) := by
  have hl := (List.getElem?_eq_some_iff.mp h0).1
  intro b e' hb
  unfold pv_set at hb
  by_cases hba : b = a
  · rw [if_pos hba] at hb
    cases hb
    subst hba
    exact ⟨q0, List.getElem?_set_self hl⟩
  · rw [if_neg hba] at hb
    obtain ⟨k, hk⟩ := hR b e' hb
    refine ⟨k, ?_⟩
    rw [List.getElem?_set_ne (fun z => ?_)]
    · exact hk
    · subst z
      rw [h0] at hk
      cases hk
      exact hba rfl
theorem pv_in_spec {j : Int32} {n : Nat} (h : pv_in j n = true) : vp_in j n := by
  simp only [pv_in, Bool.and_eq_true, decide_eq_true_eq] at h
  intro z
  rcases z with z | z
  · exact h.1 z
  · omega
/-- what a method finds besides its cells -/
def pv_Wd (K adV : Nat → Nat) (dC : Nat → ClassId) (dI : Nat → Nat → Nat) (dA : Nat → ClassId) (A : Nat → Prop) (U : State) : Prop :=
  va_K (dC, dI) pv_cls (pv_tys dA) U ∧ vk_S 9 pv_len pv_byt K adV A U U.heap ∧ (∀ M idx k, pv_ks M idx = some k → ∃ tx, vk_R (pv_own M) idx tx (K k) U) ∧ (∀ o i y z, Cond.methodLinkNest o i y z ∈ lw_tbl → va_Nw (.methodLinkNest o i y z) U) ∧ va_Z "java/lang/String" "COMPACT_STRINGS" "Z" (.int 1) A U U.heap
def pv_Act (K adV : Nat → Nat) (dC : Nat → ClassId) (dI : Nat → Nat → Nat) (dA : Nat → ClassId) (A : Nat → Prop) (M : Nat) (p : Program) (s : State) (m : MethodId) (args : Array Value) (meth : Method) (c : Code) : Prop :=
  p.tables.exec = Jvm.exec ∧ c.code = pv_bc M ∧ meth.sig.returnType = pv_rt M ∧ meth.locks = false ∧ c.maxLocals = pv_mL M ∧ s.vm.findClass (pv_own M) = some m.cls ∧ (∀ w ∈ pv_big, w.before args s = true) ∧ pv_Wd K adV dC dI dA A s
end
section
theorem pv_sl21 : 21 < pv_ms.length ∧ pv_wsM 21 = Cond.code pv_sln (pv_bc 21) (pv_mL 21) (pv_rt 21) :: pv_big ∧ Cond.initialized "java/lang/String" ∈ lw_tbl ∧ pv_fr 21 + 1 ≤ 5 ∧ 8 + (pv_mL 21 + 11) + pv_lo 21 ≤ 110 ∧ Cond.instanceMethod pv_sln ∈ lw_tbl ∧ Cond.selects "java/lang/String" pv_sln pv_sln ∈ lw_tbl := by
  refine ⟨by decide +kernel, ?_, by decide +kernel, by decide +kernel, by decide +kernel, by decide +kernel, by decide +kernel⟩
  have : pv_y 21 = pv_sln := by decide +kernel
  unfold pv_wsM
  rw [this]
theorem pv_sl23 : 23 < pv_ms.length ∧ pv_wsM 23 = Cond.code pv_scn (pv_bc 23) (pv_mL 23) (pv_rt 23) :: pv_big ∧ pv_fr 23 + 1 ≤ 5 ∧ 8 + (pv_mL 23 + 11) + pv_lo 23 ≤ 110 ∧ Cond.instanceMethod pv_scn ∈ lw_tbl ∧ Cond.selects "java/lang/String" pv_scn pv_scn ∈ lw_tbl := by
  refine ⟨by decide +kernel, ?_, by decide +kernel, by decide +kernel, by decide +kernel, by decide +kernel⟩
  have : pv_y 23 = pv_scn := by decide +kernel
  unfold pv_wsM
  rw [this]
section SH
variable {p : Program} {l : Launch} {e : Env} {R : Room} {s : State} {m : MethodId} {args : Array Value} {below : List Frame} {meth : Method} {c : Code} {H : Heap} {locs : List Loc} {cells slots : Nat} {Q : State → Prop}
variable {K adV : Nat → Nat} {dC : Nat → ClassId} {dI : Nat → Nat → Nat} {dA : Nat → ClassId} {A : Nat → Prop} {M : Nat}
/-- the two members of String that the system calls, as they must be met -/
def pv_Str (l : Launch) (K adV : Nat → Nat) (dC : Nat → ClassId) (dI : Nat → Nat → Nat) (dA : Nat → ClassId) (A : Nat → Prop) : Prop :=
  (∀ k, k < 9 → Met l pv_sln (pv_wsM 21) (pv_rmM 21) (va_Pc [.ref (K k)] (pv_Wd K adV dC dI dA A)) (vp_Si (fun r => r = nI (pv_len.getD k 0))) 0 0 (fun _ => False)) ∧
  (∀ (k : Nat) (j : Int32), k < 9 → pv_in j (pv_len.getD k 0) = true → Met l pv_scn (pv_wsM 23) (pv_rmM 23) (va_Pc [.ref (K k), .int j] (pv_Wd K adV dC dI dA A)) (vp_Si (fun r => r = (pv_byt.getD k []).getD j.toNatClampNeg 0 &&& 255)) 0 0 (fun _ => False))
theorem pv_Wd.at {s U : State} (h : pv_Wd K adV dC dI dA A s) (hS : va_S A s.heap H locs) (hU : U.heap = H) (hW : s.WarmedH U.vm) : pv_Wd K adV dC dI dA A U := by
  obtain ⟨h1, h2, h3, h4, h5⟩ := h
  subst hU
  exact ⟨va_K.moved hW.alike h1, (h2.kept (fun a q1 q2 => hS.2.1 a q1 q2)).moved hW.alike, fun M idx k q => (h3 M idx k q).elim fun tx z => ⟨tx, z.warm hW⟩, fun o i y z q => va_Nw.warmM hW (h4 o i y z q), (h5.kept (fun a q1 q2 => hS.2.1 a q1 q2)).moved hW.alike⟩
theorem pv_Wd.blind (as : List Value) : FrameBlind (va_Pc as (pv_Wd K adV dC dI dA A)) := by
  intro a U g mk q
  obtain ⟨q0, q1, q2, q3, q4, q5⟩ := q
  exact ⟨q0, va_K.moved (u := U) (U := U.calling g mk a) (Vm.Alike.refl U.vm) q1, vk_S.moved (u := U) (U := U.calling g mk a) (Vm.Alike.refl U.vm) q2, fun M idx k z => (q3 M idx k z).elim fun tx w => ⟨tx, vk_R.same (u := U) (U := U.calling g mk a) rfl w⟩, fun o i y z w => va_Nw.same (u := U) (U := U.calling g mk a) rfl rfl (q4 o i y z w), va_Z.moved (u := U) (U := U.calling g mk a) (Vm.Alike.refl U.vm) q5⟩
/-- behind a call that leaves the cells -/
theorem pv_callS {r0 : Int32} {pc : Nat} {ls : Array Slot} {rest st0 : List Value} {a : Array Value} (hr : va_Run p l e R s m args below meth c H locs cells slots 0 0 (F0 m pc ls st0) rest (vp_Si (fun r => r = r0) a) (fun _ => False)) (kk : W p l e R s m args below meth c H locs cells slots Q (F0 m (pc + 3) ls (.int r0 :: rest))) : W p l e R s m args below meth c H locs cells slots Q (F0 m pc ls st0) := by
  intro T hT X
  obtain ⟨v, st₀, t, T', L, h0, X', hL, e1, e2, ⟨r, hv, hp, hb⟩, st⟩ := hr T hT X
  cases hv
  subst hp
  have hLn : L = [] := by
    cases L with
    | nil => rfl
    | cons q L => exact (hL q List.mem_cons_self).elim
  subst hLn
  rw [List.append_nil] at X'
  obtain ⟨t2, a1, b1⟩ := kk T' (by rw [e1, hb, h0]) X'
  exact ⟨t2, st t2 a1, b1⟩
theorem pv_si_spec {b k : Nat} (h : pv_si K b = some k) : k < 9 ∧ K k = b := by
  have h1 := List.find?_some h
  have h2 := List.mem_of_find?_eq_some h
  simp only [decide_eq_true_eq] at h1
  exact ⟨List.mem_range.mp h2, h1⟩
theorem pv_GoodIn {M M' : Nat} (h : M' < pv_ms.length) : GoodIn (pv_wsM M) (pv_wsM M') := by
  intro w hw
  rcases List.mem_cons.mp hw with rfl | hw
  · obtain ⟨q, hq⟩ : ∃ q, pv_ms[M']? = some q := ⟨_, List.getElem?_eq_getElem h⟩
    have hm := List.mem_of_getElem? hq
    obtain ⟨w, hw1, hw2⟩ := List.mem_filterMap.mp hm
    split at hw2
    · rename_i y cd n rt
      cases hw2
      have : Cond.code (pv_y M') (pv_bc M') (pv_mL M') (pv_rt M') = Cond.code y cd n rt := by
        simp only [pv_y, pv_bc, pv_mL, pv_rt, hq]
      rw [this]
      exact ⟨List.mem_cons_of_mem _ (pv_bigmem (List.mem_append_right _ hw1) rfl), Or.inl rfl⟩
    · cases hw2
  · exact ⟨List.mem_cons_of_mem _ hw, good_of_word (List.mem_filter.mp hw).2⟩
set_option maxHeartbeats 8000000 in
set_option maxRecDepth 20000 in
theorem pv_simH {pc pc' len : Nat} {f : pv_F} {st st' : List Value} {i : Instr} {ls : Array Slot} {h h' : pv_H} {ws : va_W} (hStr : pv_Str l K adV dC dI dA A) (hAct : pv_Act K adV dC dI dA A M p s m args meth c) (hfr : R.frames = pv_fr M) (hlo : R.locals = pv_lo M) (hrc : R.cells = 0) (hrs : R.slots = 0) (hdg : decode (pv_bc M) pc = .ok (i, len)) (hlen : pv_ln i len = true) (hs : pv_sh K M pc i st h = some (pc', st', h')) (hl : pv_L f ls (pv_mL M)) (hR : pv_R dA h ws) (hP : va_P (dC, dI) pv_cls ws H) (hD : va_D A ws) (hS : va_S A s.heap H locs) (hts : ∀ w ∈ pv_wsM M, w.before args s = true)
    (k : ∀ (H' : Heap) (locs' : List Loc) (ws' : va_W), pv_R dA h' ws' → va_P (dC, dI) pv_cls ws' H' → va_D A ws' → va_S A s.heap H' locs' → W p l e R s m args below meth c H' locs' 0 0 Q (F0 m pc' ls st')) : W p l e R s m args below meth c H locs 0 0 Q (F0 m pc ls st) := by
  obtain ⟨hx, hb, hr, hlk, hml, hown, hbig, hWd⟩ := id hAct
  have hK := hWd.1
  cases i with
  | getfield idx =>
    obtain rfl : len = 3 := by simpa [pv_ln] using hlen
    unfold pv_sh at hs
    dsimp only at hs
    split at hs
    · split at hs
      · rename_i ci kf hg
        split at hs
        · rename_i cj fs ha
          split at hs
          · rename_i hcc
            subst hcc
            split at hs
            · rename_i v hv
              simp only [Option.some.injEq, Prod.mk.injEq] at hs
              obtain ⟨rfl, rfl, rfl⟩ := hs
              obtain ⟨q, hq, hkf, hlink⟩ := pv_gf_spec hg
              obtain ⟨q0, h0⟩ := hR _ _ ha
              exact va_get (D := (dC, dI)) (C := q.1) (T := q.2.1) (N := q.2.2) hx hb hbig (pv_cls_big hq) hown hK hP q0 h0 hq kf hkf (hbig _ (pv_bigmem hlink rfl)) (fun _ z => z) hv hdg (k H locs ws hR hP hD hS)
            · cases hs
          · cases hs
        · cases hs
      · cases hs
    · cases hs
  | putfield idx =>
    obtain rfl : len = 3 := by simpa [pv_ln] using hlen
    unfold pv_sh at hs
    dsimp only at hs
    split at hs
    · split at hs
      · rename_i ci kf hg
        split at hs
        · rename_i cj fs ha
          split at hs
          · rename_i q hq
            split at hs
            · rename_i ty hty
              split at hs
              · rename_i hcc
                obtain ⟨rfl, hfin, hnar, hfit, hkl, -⟩ := hcc
                simp only [Option.some.injEq, Prod.mk.injEq] at hs
                obtain ⟨rfl, rfl, rfl⟩ := hs
                obtain ⟨q', hq', hkf, hlink⟩ := pv_gf_spec hg
                cases hq.symm.trans hq'
                obtain ⟨q0, h0⟩ := hR _ _ ha
                obtain ⟨-, hnm, ty0, hty0⟩ := pv_clsok _ _ hq
                exact va_put (D := (dC, dI)) (C := q.1) (T := q.2.1) (N := q.2.2) hx hb hbig (pv_cls_big hq) ty0 hty0 hnm hown hK hP hD hS q0 h0 hq kf hkf (hbig _ (pv_bigmem hlink rfl)) (fun _ z => z) hfin hty hnar hfit hkl hdg (fun H1 locs1 hP1 hD1 hS1 => k H1 locs1 _ (hR.set hD h0) hP1 hD1 hS1)
              · cases hs
            · cases hs
          · cases hs
        · cases hs
      · cases hs
    · cases hs
  | iaload =>
    obtain rfl : len = 1 := by simpa [pv_ln] using hlen
    unfold pv_sh at hs
    dsimp only at hs
    split at hs
    · split at hs
      · rename_i n g ha
        split at hs
        · rename_i hin
          simp only [Option.some.injEq, Prod.mk.injEq] at hs
          obtain ⟨rfl, rfl, rfl⟩ := hs
          obtain ⟨q0, h0⟩ := hR _ _ ha
          exact va_iald (D := (dC, dI)) hx hb hK hP q0 0 h0 rfl (pv_in_spec hin) hdg (k H locs ws hR hP hD hS)
        · cases hs
      · cases hs
    · cases hs
  | laload =>
    obtain rfl : len = 1 := by simpa [pv_ln] using hlen
    unfold pv_sh at hs
    dsimp only at hs
    split at hs
    · split at hs
      · rename_i n g ha
        split at hs
        · rename_i hin
          simp only [Option.some.injEq, Prod.mk.injEq] at hs
          obtain ⟨rfl, rfl, rfl⟩ := hs
          obtain ⟨q0, h0⟩ := hR _ _ ha
          exact va_lald (D := (dC, dI)) hx hb hK hP q0 1 h0 rfl (pv_in_spec hin) hdg (k H locs ws hR hP hD hS)
        · cases hs
      · cases hs
    · cases hs
  | baload =>
    obtain rfl : len = 1 := by simpa [pv_ln] using hlen
    unfold pv_sh at hs
    dsimp only at hs
    split at hs
    · split at hs
      · rename_i n g ha
        split at hs
        · rename_i hin
          simp only [Option.some.injEq, Prod.mk.injEq] at hs
          obtain ⟨rfl, rfl, rfl⟩ := hs
          obtain ⟨q0, h0⟩ := hR _ _ ha
          exact va_bald (D := (dC, dI)) hx hb hK hP q0 2 h0 rfl (pv_in_spec hin) hdg (k H locs ws hR hP hD hS)
        · cases hs
      · rename_i n g ha
        split at hs
        · rename_i hin
          simp only [Option.some.injEq, Prod.mk.injEq] at hs
          obtain ⟨rfl, rfl, rfl⟩ := hs
          obtain ⟨q0, h0⟩ := hR _ _ ha
          exact va_zald (D := (dC, dI)) hx hb hK hP q0 3 h0 rfl (pv_in_spec hin) hdg (k H locs ws hR hP hD hS)
        · cases hs
      · cases hs
    · cases hs
  | aaload =>
    obtain rfl : len = 1 := by simpa [pv_ln] using hlen
    unfold pv_sh at hs
    dsimp only at hs
    split at hs
    · split at hs
      · rename_i n g ha
        split at hs
        · rename_i hin
          simp only [Option.some.injEq, Prod.mk.injEq] at hs
          obtain ⟨rfl, rfl, rfl⟩ := hs
          obtain ⟨q0, h0⟩ := hR _ _ ha
          exact va_aldq (D := (dC, dI)) hx hb hK hP q0 4 h0 rfl (pv_in_spec hin) hdg (k H locs ws hR hP hD hS)
        · cases hs
      · rename_i n g ha
        split at hs
        · rename_i hin
          simp only [Option.some.injEq, Prod.mk.injEq] at hs
          obtain ⟨rfl, rfl, rfl⟩ := hs
          obtain ⟨q0, h0⟩ := hR _ _ ha
          exact va_aldq (D := (dC, dI)) hx hb hK hP q0 5 h0 rfl (pv_in_spec hin) hdg (k H locs ws hR hP hD hS)
        · cases hs
      · cases hs
    · cases hs
  | iastore =>
    obtain rfl : len = 1 := by simpa [pv_ln] using hlen
    unfold pv_sh at hs
    dsimp only at hs
    split at hs
    · split at hs
      · rename_i n g ha
        split at hs
        · rename_i hin
          simp only [Option.some.injEq, Prod.mk.injEq] at hs
          obtain ⟨rfl, rfl, rfl⟩ := hs
          obtain ⟨q0, h0⟩ := hR _ _ ha
          exact va_iast (D := (dC, dI)) hx hb hK hP hD hS q0 0 h0 rfl (pv_in_spec hin) hdg (fun H1 locs1 hP1 hD1 hS1 => k H1 locs1 _ (hR.set hD h0) hP1 hD1 hS1)
        · cases hs
      · cases hs
    · cases hs
  | lastore =>
    obtain rfl : len = 1 := by simpa [pv_ln] using hlen
    unfold pv_sh at hs
    dsimp only at hs
    split at hs
    · split at hs
      · rename_i n g ha
        split at hs
        · rename_i hin
          simp only [Option.some.injEq, Prod.mk.injEq] at hs
          obtain ⟨rfl, rfl, rfl⟩ := hs
          obtain ⟨q0, h0⟩ := hR _ _ ha
          exact va_last (D := (dC, dI)) hx hb hK hP hD hS q0 1 h0 rfl (pv_in_spec hin) hdg (fun H1 locs1 hP1 hD1 hS1 => k H1 locs1 _ (hR.set hD h0) hP1 hD1 hS1)
        · cases hs
      · cases hs
    · cases hs
  | bastore =>
    obtain rfl : len = 1 := by simpa [pv_ln] using hlen
    unfold pv_sh at hs
    dsimp only at hs
    split at hs
    · split at hs
      · rename_i n g ha
        split at hs
        · rename_i hin
          simp only [Option.some.injEq, Prod.mk.injEq] at hs
          obtain ⟨rfl, rfl, rfl⟩ := hs
          obtain ⟨q0, h0⟩ := hR _ _ ha
          exact va_bast (D := (dC, dI)) hx hb hK hP hD hS q0 2 h0 rfl (pv_in_spec hin) hdg (fun H1 locs1 hP1 hD1 hS1 => k H1 locs1 _ (hR.set hD h0) hP1 hD1 hS1)
        · cases hs
      · rename_i n g ha
        split at hs
        · rename_i hin
          simp only [Option.some.injEq, Prod.mk.injEq] at hs
          obtain ⟨rfl, rfl, rfl⟩ := hs
          obtain ⟨q0, h0⟩ := hR _ _ ha
          exact va_zast (D := (dC, dI)) hx hb hK hP hD hS q0 3 h0 rfl (pv_in_spec hin) hdg (fun H1 locs1 hP1 hD1 hS1 => k H1 locs1 _ (hR.set hD h0) hP1 hD1 hS1)
        · cases hs
      · cases hs
    · cases hs
  | arraylength =>
    obtain rfl : len = 1 := by simpa [pv_ln] using hlen
    unfold pv_sh at hs
    dsimp only at hs
    split at hs
    · split at hs
      · rename_i x ha
        simp only [Option.some.injEq, Prod.mk.injEq] at hs
        obtain ⟨rfl, rfl, rfl⟩ := hs
        obtain ⟨q0, h0⟩ := hR _ _ ha
        exact va_alen (D := (dC, dI)) hx hb hK hP q0 0 h0 (ty := .int) rfl rfl hdg (k H locs ws hR hP hD hS)
      · rename_i x ha
        simp only [Option.some.injEq, Prod.mk.injEq] at hs
        obtain ⟨rfl, rfl, rfl⟩ := hs
        obtain ⟨q0, h0⟩ := hR _ _ ha
        exact va_alen (D := (dC, dI)) hx hb hK hP q0 1 h0 (ty := .long) rfl rfl hdg (k H locs ws hR hP hD hS)
      · cases hs
    · cases hs
  | ldc idx =>
    obtain rfl : len = 2 := by simpa [pv_ln] using hlen
    unfold pv_sh at hs
    dsimp only at hs
    split at hs
    · rename_i v hv
      simp only [Option.some.injEq, Prod.mk.injEq] at hs
      obtain ⟨rfl, rfl, rfl⟩ := hs
      exact lv_ldc hx hb hown (hbig _ (pv_bigmem (pv_kc_spec hv) rfl)) hdg (k H locs ws hR hP hD hS)
    · split at hs
      · rename_i q hq
        simp only [Option.some.injEq, Prod.mk.injEq] at hs
        obtain ⟨rfl, rfl, rfl⟩ := hs
        obtain ⟨tx, hz⟩ := hWd.2.2.1 _ _ _ hq
        exact va_ldcS hx hb hown hz hdg (k H locs ws hR hP hD hS)
      · cases hs
  | ldc_w idx =>
    obtain rfl : len = 3 := by simpa [pv_ln] using hlen
    unfold pv_sh at hs
    dsimp only at hs
    split at hs
    · rename_i v hv
      simp only [Option.some.injEq, Prod.mk.injEq] at hs
      obtain ⟨rfl, rfl, rfl⟩ := hs
      exact lv_ldcw hx hb hown (hbig _ (pv_bigmem (pv_kc_spec hv) rfl)) hdg (k H locs ws hR hP hD hS)
    · cases hs
  | ldc2_w idx =>
    obtain rfl : len = 3 := by simpa [pv_ln] using hlen
    unfold pv_sh at hs
    dsimp only at hs
    split at hs
    · rename_i v hv
      simp only [Option.some.injEq, Prod.mk.injEq] at hs
      obtain ⟨rfl, rfl, rfl⟩ := hs
      exact lv_ldc2 hx hb hown (hbig _ (pv_bigmem (pv_kd_spec hv) rfl)) hdg (k H locs ws hR hP hD hS)
    · cases hs
  | invokevirtual idx =>
    obtain rfl : len = 3 := by simpa [pv_ln] using hlen
    unfold pv_sh at hs
    dsimp only at hs
    split at hs
    · rename_i y hy
      have hlink : (Cond.methodLink (pv_own M) idx y).before args s = true := by
        rcases pv_ml_spec hy with ⟨-, z⟩ | ⟨z, z1, -⟩
        · exact hbig _ (pv_bigmem z rfl)
        · cases z1
      split at hs
      · rename_i hyl
        subst hyl
        split at hs
        · split at hs
          · rename_i q hq
            split at hs
            · rename_i hok
              simp only [Option.some.injEq, Prod.mk.injEq] at hs
              obtain ⟨rfl, rfl, rfl⟩ := hs
              obtain ⟨hq9, rfl⟩ := pv_si_spec hq
              simp only [pv_okL, Bool.and_eq_true, decide_eq_true_eq] at hok
              have cb : CallB R s args (pv_own M) idx pv_sln (pv_bc 21) (pv_mL 21) (pv_rt 21) (pv_wsM 21) (pv_rmM 21) 0 0 0 := callB_of 0 hts (pv_GoodIn pv_sl21.1) pv_sl21.2.1 rfl rfl (hbig _ (pv_bigmem pv_sl21.2.2.1 rfl)) hlink (by decide +kernel) ⟨by rw [hfr]; exact Nat.le_trans pv_sl21.2.2.2.1 hok.1.1, by rw [hlo]; exact Nat.le_trans pv_sl21.2.2.2.2.1 hok.1.2⟩
              exact pv_callS (va_runV (As := []) ⟨hx, hb, hml, hown, hts⟩ (hStr.1 q hq9) ⟨cb, hbig _ (pv_bigmem pv_sl21.2.2.2.2.2.1 rfl), hbig _ (pv_bigmem pv_sl21.2.2.2.2.2.2 rfl)⟩ ⟨pv_Wd.blind _, vk_recv hWd.2.1 hq9 hS, fun U hU hW => ⟨rfl, hWd.at hS hU hW⟩⟩ rfl rfl hl.1 rfl (lv_room hok.2) hdg ⟨by omega, by omega⟩) (k H locs ws hR hP hD hS)
            · cases hs
          · cases hs
        · cases hs
      · split at hs
        · rename_i hyl
          subst hyl
          split at hs
          · split at hs
            · rename_i q hq
              split at hs
              · rename_i hok
                simp only [Option.some.injEq, Prod.mk.injEq] at hs
                obtain ⟨rfl, rfl, rfl⟩ := hs
                obtain ⟨hq9, rfl⟩ := pv_si_spec hq
                simp only [pv_okL, Bool.and_eq_true, decide_eq_true_eq] at hok
                have cb : CallB R s args (pv_own M) idx pv_scn (pv_bc 23) (pv_mL 23) (pv_rt 23) (pv_wsM 23) (pv_rmM 23) 0 0 1 := callB_of 1 hts (pv_GoodIn pv_sl23.1) pv_sl23.2.1 rfl rfl (hbig _ (pv_bigmem pv_sl21.2.2.1 rfl)) hlink (by decide +kernel) ⟨by rw [hfr]; exact Nat.le_trans pv_sl23.2.2.1 hok.1.1, by rw [hlo]; exact Nat.le_trans pv_sl23.2.2.2.1 hok.1.2⟩
                exact pv_callS (va_runV (As := [.int _]) ⟨hx, hb, hml, hown, hts⟩ (hStr.2 q _ hq9 hok.2.2) ⟨cb, hbig _ (pv_bigmem pv_sl23.2.2.2.2.1 rfl), hbig _ (pv_bigmem pv_sl23.2.2.2.2.2 rfl)⟩ ⟨pv_Wd.blind _, vk_recv hWd.2.1 hq9 hS, fun U hU hW => ⟨rfl, hWd.at hS hU hW⟩⟩ rfl rfl hl.1 rfl (lv_room hok.2.1) hdg ⟨by omega, by omega⟩) (k H locs ws hR hP hD hS)
              · cases hs
            · cases hs
          · cases hs
        · cases hs
    · cases hs
  | invokestatic idx =>
    obtain rfl : len = 3 := by simpa [pv_ln] using hlen
    unfold pv_sh at hs
    dsimp only at hs
    split at hs
    · rename_i y hy
      have hlink : (Cond.methodLink (pv_own M) idx y).before args s = true := by
        rcases pv_ml_spec hy with ⟨-, z⟩ | ⟨z, z1, -⟩
        · exact hbig _ (pv_bigmem z rfl)
        · cases z1
      split at hs
      · rename_i hyl
        obtain ⟨rfl, hokC⟩ := hyl
        simp only [pv_okC, Bool.and_eq_true, decide_eq_true_eq] at hokC
        obtain ⟨⟨⟨⟨hc1, hc2⟩, hc3⟩, hc4⟩, hc5⟩ := hokC
        have hnw : nativeFrameWords "java/lang/System" "arraycopy" 5 = 7 := by decide +kernel
        split at hs
        · split at hs
          · rename_i hcc
            obtain ⟨hsum, hsp, hdp, hn0⟩ := hcc
            split at hs
            · rename_i n0 f0 n1 g0 ha0 ha
              split at hs
              · rename_i hle
                simp only [Option.some.injEq, Prod.mk.injEq] at hs
                obtain ⟨rfl, rfl, rfl⟩ := hs
                obtain ⟨q0, h0⟩ := hR _ _ ha0
                obtain ⟨q1, h1⟩ := hR _ _ ha
                exact va_copyi (D := (dC, dI)) hx hb (by rw [hml, hl.1]) hown hlink (hbig _ (pv_bigmem hc1 rfl)) (hbig _ (pv_bigmem hc2 rfl)) (hbig _ (pv_bigmem hc3 rfl)) hK hP hD hS q0 q1 0 0 h0 h1 rfl rfl rfl hsp hdp hn0 hle.1 hle.2 (fun _ _ => rfl) (by rw [hfr]; exact hc4) (by rw [hlo, hnw]; omega) hdg (fun H1 locs1 hP1 hD1 hS1 => k H1 locs1 _ (hR.set hD h1) hP1 hD1 hS1)
              · cases hs
            · rename_i n0 f0 n1 g0 ha0 ha
              split at hs
              · rename_i hle
                simp only [Option.some.injEq, Prod.mk.injEq] at hs
                obtain ⟨rfl, rfl, rfl⟩ := hs
                obtain ⟨q0, h0⟩ := hR _ _ ha0
                obtain ⟨q1, h1⟩ := hR _ _ ha
                exact va_copyl (D := (dC, dI)) hx hb (by rw [hml, hl.1]) hown hlink (hbig _ (pv_bigmem hc1 rfl)) (hbig _ (pv_bigmem hc2 rfl)) (hbig _ (pv_bigmem hc3 rfl)) hK hP hD hS q0 q1 1 1 h0 h1 rfl rfl rfl hsp hdp hn0 hle.1 hle.2 (fun _ _ => rfl) (by rw [hfr]; exact hc4) (by rw [hlo, hnw]; omega) hdg (fun H1 locs1 hP1 hD1 hS1 => k H1 locs1 _ (hR.set hD h1) hP1 hD1 hS1)
              · cases hs
            · cases hs
          · cases hs
        · cases hs
      · cases hs
    · cases hs
  | _ =>
    unfold pv_sh at hs
    dsimp only at hs
    cases hs
end SH
end
section
section SM
variable {K adV : Nat → Nat} {dC : Nat → ClassId} {dI : Nat → Nat → Nat} {dA : Nat → ClassId} {A : Nat → Prop}
/-- a method's start and end, over the plain cells -/
def pv_Pc (K adV : Nat → Nat) (dC : Nat → ClassId) (dI : Nat → Nat → Nat) (dA : Nat → ClassId) (A : Nat → Prop) (as : List Value) (ws : va_W) : Array Value → State → Prop := va_Pc as (fun U => va_P (dC, dI) pv_cls ws U.heap ∧ va_D A ws ∧ pv_Wd K adV dC dI dA A U)
def pv_Q (dC : Nat → ClassId) (dI : Nat → Nat → Nat) (dA : Nat → ClassId) (A : Nat → Prop) (r : Option Value) (h' : pv_H) : Array Value → State → Outcome → State → Prop := fun _ st oc t => (∃ u : va_W, oc = .returned r ∧ pv_R dA h' u ∧ va_P (dC, dI) pv_cls u t.heap ∧ va_D A u) ∧ va_F A st t
theorem pv_Pc.blind (as : List Value) (ws : va_W) : FrameBlind (pv_Pc K adV dC dI dA A as ws) := by
  intro a U g mk q
  obtain ⟨q0, q1, q2, q3⟩ := q
  exact ⟨q0, q1, q2, (pv_Wd.blind as a U g mk ⟨q0, q3⟩).2⟩
theorem pv_callM {p : Program} {l : Launch} {e : Env} {R : Room} {s : State} {m : MethodId} {args : Array Value} {below : List Frame} {meth : Method} {c : Code} {H : Heap} {locs : List Loc} {Q : State → Prop} {r : Option Value} {h' : pv_H} {pc : Nat} {ls : Array Slot} {rest st0 : List Value} {a : Array Value} (hr : va_Run p l e R s m args below meth c H locs 0 0 0 0 (F0 m pc ls st0) rest (pv_Q dC dI dA A r h' a) A) (hS : va_S A s.heap H locs)
    (kk : ∀ (H1 : Heap) (locs1 : List Loc) (u : va_W), pv_R dA h' u → va_P (dC, dI) pv_cls u H1 → va_D A u → va_S A s.heap H1 locs1 → W p l e R s m args below meth c H1 locs1 0 0 Q (F0 m (pc + 3) ls (r.toList ++ rest))) : W p l e R s m args below meth c H locs 0 0 Q (F0 m pc ls st0) := by
  intro T hT X
  obtain ⟨v, st₀, t, T', L, h0, X', hL, e1, e2, ⟨⟨u, hv, hu1, hu2, hu3⟩, hz, hk⟩, st⟩ := hr T hT X
  cases hv
  rw [h0] at hz hk
  obtain ⟨t2, a1, b1⟩ := kk T'.heap (locs ++ L) u hu1 (by rw [e1]; exact hu2) hu3
    ⟨Nat.le_trans hS.1 (by rw [e1]; exact hz), fun q h1 h2 => by rw [e1, hk q (Nat.lt_of_lt_of_le h1 hS.1) h2]; exact hS.2.1 q h1 h2, fun q hq => by
      rcases List.mem_append.mp hq with h | h
      · exact hS.2.2 q h
      · exact hL q h⟩ T' rfl X'
  exact ⟨t2, st t2 a1, b1⟩
theorem pv_es_sl : ∀ (as : List Value) (i : Nat) (v : Value), (pv_es as)[i]? = some (some v) → (lg_sl as)[i]? = some (.val v) := by
  intro as
  induction as with
  | nil => intro i v h; cases h
  | cons w as ih =>
    intro i v h
    unfold pv_es at h
    have e : lg_sl (w :: as) = (if w.category = 2 then [Slot.val w, Slot.second] else [Slot.val w]) ++ lg_sl as := by simp [lg_sl]
    rw [e]
    split at h
    · rename_i hc
      rw [if_pos hc]
      match i, h with
      | 0, h => simp only [List.getElem?_cons_zero, Option.some.injEq] at h; subst h; rfl
      | 1, h => simp at h
      | i + 2, h =>
        simp only [List.getElem?_cons_succ] at h
        simpa using ih i v h
    · rename_i hc
      rw [if_neg hc]
      match i, h with
      | 0, h => simp only [List.getElem?_cons_zero, Option.some.injEq] at h; subst h; rfl
      | i + 1, h =>
        simp only [List.getElem?_cons_succ] at h
        simpa using ih i v h
theorem pv_L.entry (as : List Value) {n : Nat} (h : (lg_sl as).length ≤ n) : pv_L (pv_en as) ((lg_sl as ++ List.replicate (n - (lg_sl as).length) Slot.unset).toArray) n := by
  have h1 := lv_entry as h
  refine ⟨h1.1, h1.2.1, fun i v hv => ?_⟩
  unfold pv_en pv_fl at hv
  split at hv
  · rename_i o ho
    subst hv
    have h2 := pv_es_sl as i v ho
    have h3 := (List.getElem?_eq_some_iff.mp h2).1
    rw [List.getElem?_toArray, List.getElem?_append_left h3]
    exact h2
  · cases hv
theorem pv_ix_spec {y : MethodName} {M : Nat} (h : pv_ix y = some M) : pv_y M = y := by
  obtain ⟨q, hq, hd⟩ : ∃ q, pv_ms[M]? = some q ∧ q.1 = y := by
    have h1 := List.findIdx?_eq_some_iff_getElem.mp h
    obtain ⟨hl, hd, -⟩ := h1
    simp only [decide_eq_true_eq] at hd
    exact ⟨_, List.getElem?_eq_getElem hl, hd⟩
  simp only [pv_y, hq]
  exact hd
theorem pv_dec_spec {M pc : Nat} {q : Instr × Nat} (h : pv_dec M pc = some q) : decode (pv_bc M) pc = .ok q := by
  unfold pv_dec at h
  split at h
  · rename_i z hz
    cases h
    exact hz
  · cases h
/-- what the real machine does where the plain one comes to its end: a frame's rest -/
def pv_Sim (l : Launch) (K adV : Nat → Nat) (dC : Nat → ClassId) (dI : Nat → Nat → Nat) (dA : Nat → ClassId) (A : Nat → Prop) (n : Nat) : Prop :=
  ∀ (M pc : Nat) (f : pv_F) (st : List Value) (h : pv_H) (r : Option Value) (h' : pv_H), pv_ev K n M pc f st h = some (r, h') → ∀ (p : Program) (e : Env) (s : State) (m : MethodId) (args : Array Value) (below : List Frame) (meth : Method) (c : Code) (H : Heap) (locs : List Loc) (ls : Array Slot) (ws : va_W), pv_Act K adV dC dI dA A M p s m args meth c → (∀ w ∈ pv_wsM M, w.before args s = true) → pv_L f ls (pv_mL M) → pv_R dA h ws → va_P (dC, dI) pv_cls ws H → va_D A ws → va_S A s.heap H locs →
    W p l e (headSpec (pv_wsM M) (pv_rmM M)).room s m args below meth c H locs 0 0 (MQ below (pv_Q dC dI dA A r h') args s 0 0 A) (F0 m pc ls st)
theorem pv_met_of {l : Launch} {n : Nat} (hSim : pv_Sim l K adV dC dI dA A n) {M : Nat} {as : List Value} {h : pv_H} {r : Option Value} {h' : pv_H} {ws : va_W} (hev : pv_ev K n M 0 (pv_en as) [] h = some (r, h')) (hplain : plainName (pv_y M).cls = true) (hlen : (lg_sl as).length ≤ pv_mL M) (hR : pv_R dA h ws) : Met l (pv_y M) (pv_wsM M) (pv_rmM M) (pv_Pc K adV dC dI dA A as ws) (pv_Q dC dI dA A r h') 0 0 A := by
  refine Met.ofW (cc := pv_bc M) (maxL := pv_mL M) (ret := pv_rt M) hplain rfl ?_
  intro p e s m args below meth c s₁ B hml hv
  obtain ⟨rfl, hP, hD, hWd⟩ := hv
  have hts := atoms_spec (ws := pv_wsM M) B.pre
  rw [lg_entry_eq]
  exact hSim M 0 (pv_en as) [] h r h' hev p e s m _ below meth c s.heap [] _ ws ⟨B.exec, B.bytes, B.returns, B.notSynchronized, hml, findClass_of_methodNamed B.named, fun w hw => hts w (List.mem_cons_of_mem _ hw), hWd⟩ hts (pv_L.entry as hlen) hR hP hD va_S.rf
set_option maxHeartbeats 4000000 in
theorem pv_sim {l : Launch} (hStr : pv_Str l K adV dC dI dA A) : ∀ n, pv_Sim l K adV dC dI dA A n := by
  intro n
  induction n with
  | zero => intro M pc f st h r h' hev; cases hev
  | succ n ih =>
    intro M pc f st h r h' hev p e s m args below meth c H locs ls ws hAct hts hl hR hP hD hS
    obtain ⟨hx, hb, hr, hlk, hml, hown, hbig, hWd⟩ := id hAct
    rw [pv_ev] at hev
    split at hev
    · cases hev
    · rename_i i len hd
      have hdg := pv_dec_spec hd
      split at hev
      · rename_i hlen
        split at hev
        · rename_i pc' f' st' hs
          exact pv_simP hx hb hdg hlen hs hl (fun ls' hl' => ih _ _ _ _ _ _ _ hev p e s m args below meth c H locs ls' ws hAct hts hl' hR hP hD hS)
        · split at hev
          · rename_i pc' st' h'' hs
            exact pv_simH hStr hAct rfl rfl rfl rfl hdg hlen hs hl hR hP hD hS hts (fun H' locs' ws' hR' hP' hD' hS' => ih _ _ _ _ _ _ _ hev p e s m args below meth c H' locs' ls ws' hAct hts hl hR' hP' hD' hS')
          · split at hev
            · rename_i rr hs
              cases hev
              unfold pv_re at hs
              split at hs
              · obtain rfl : len = 1 := by simpa [pv_ln] using hlen
                split at hs
                · split at hs
                  · rename_i hrt
                    cases hs
                    exact W.iret hx hb (hr.trans hrt) (fun t ht hW => ⟨⟨ws, rfl, hR, by rw [ht]; exact hP, hD⟩, hS.F ht⟩) hS.2.2 hdg hlk
                  · split at hs
                    · rename_i hrt
                      cases hs
                      exact W.zret hx hb (hr.trans hrt.1) hrt.2 (fun t ht hW => ⟨⟨ws, rfl, hR, by rw [ht]; exact hP, hD⟩, hS.F ht⟩) hS.2.2 hdg hlk
                    · cases hs
                · cases hs
              · obtain rfl : len = 1 := by simpa [pv_ln] using hlen
                split at hs
                · split at hs
                  · rename_i hrt
                    cases hs
                    exact W.lret hx hb (hr.trans hrt) (fun t ht hW => ⟨⟨ws, rfl, hR, by rw [ht]; exact hP, hD⟩, hS.F ht⟩) hS.2.2 hdg hlk
                  · cases hs
                · cases hs
              · obtain rfl : len = 1 := by simpa [pv_ln] using hlen
                split at hs
                · split at hs
                  · rename_i hrt
                    cases hs
                    exact W.vret hx hb (hr.trans hrt) (fun t ht hW => ⟨⟨ws, rfl, hR, by rw [ht]; exact hP, hD⟩, hS.F ht⟩) hS.2.2 hdg hlk
                  · cases hs
                · cases hs
              · cases hs
            · split at hev
              · rename_i M' as rest hs
                split at hev
                · rename_i r1 h1 hev1
                  unfold pv_cs at hs
                  split at hs
                  · obtain rfl : len = 3 := by simpa [pv_ln] using hlen
                    split at hs
                    · rename_i y hy
                      split at hs
                      · rename_i M2 hM2
                        split at hs
                        · rename_i b r2 hst
                          split at hs
                          · rename_i ci fs hhb
                            split at hs
                            · rename_i hc
                              obtain ⟨hfind, hok, hsum, htk, hsl⟩ := hc
                              simp only [Option.some.injEq, Prod.mk.injEq] at hs
                              obtain ⟨rfl, rfl, rfl⟩ := hs
                              have hyy := pv_ix_spec hM2
                              subst hyy
                              simp only [pv_okV, pv_okB, Bool.and_eq_true, decide_eq_true_eq] at hok
                              obtain ⟨⟨⟨⟨⟨⟨⟨⟨⟨c1, c2⟩, c3⟩, c4⟩, c5⟩, c6⟩, c7⟩, c8⟩, c9⟩, c10⟩ := hok
                              have hlw := (pv_ml_spec hy).elim (fun z => z.2) (fun z => by obtain ⟨z, z1, -⟩ := z; cases z1)
                              obtain ⟨q0, h0⟩ := hR _ _ hhb
                              have hcls : ∃ q : vw_C, pv_cls[ci]? = some q ∧ q.1 = pv_own M2 := by
                                have z1 := List.find?_some hfind
                                simp only [decide_eq_true_eq, List.getElem?_map] at z1
                                cases hq : pv_cls[ci]? with
                                | none => rw [hq] at z1; cases z1
                                | some q => rw [hq] at z1; exact ⟨q, rfl, Option.some.inj z1⟩
                              obtain ⟨q, hq, hqC⟩ := hcls
                              have hrecv := va_recv hWd.1 hP hq h0
                              rw [hqC] at hrecv
                              refine pv_callM (va_runV (C := (pv_y M2).cls) (b := b) (As := (st.take (pv_np M2)).reverse) (rest := r2) ⟨hx, hb, hml, hown, hts⟩ (pv_met_of ih (ws := ws) hev1 c6 hsl hR) ⟨callB_of (pv_np M2) hts (pv_GoodIn c8) rfl rfl rfl (hbig _ (pv_bigmem c7 rfl)) (hbig _ (pv_bigmem hlw rfl)) ⟨c1, c2, c3⟩ ⟨c4, c5⟩, hbig _ (pv_bigmem c9 rfl), hbig _ (pv_bigmem c10 rfl)⟩ ⟨pv_Pc.blind _ _, hrecv, fun U hU hW => ⟨rfl, by rw [hU]; exact hP, hD, hWd.at hS hU hW⟩⟩ rfl (by rw [List.length_reverse]; exact htk) hl.1 ?_ (lv_room hsum) hdg ⟨Nat.zero_le _, Nat.zero_le _⟩) hS (fun H1 locs1 u hu1 hu2 hu3 hS1 => ih _ _ _ _ _ _ _ hev p e s m args below meth c H1 locs1 ls u hAct hts hl hu1 hu2 hu3 hS1)
                              show st = _
                              rw [List.reverse_reverse, ← hst, List.take_append_drop]
                            · cases hs
                          · cases hs
                        · cases hs
                      · cases hs
                    · cases hs
                  · obtain rfl : len = 3 := by simpa [pv_ln] using hlen
                    split at hs
                    · rename_i y o hy
                      split at hs
                      · rename_i M2 hM2
                        split at hs
                        · rename_i hc
                          obtain ⟨hok, hsum, htk, hsl⟩ := hc
                          simp only [Option.some.injEq, Prod.mk.injEq] at hs
                          obtain ⟨rfl, rfl, rfl⟩ := hs
                          have hyy := pv_ix_spec hM2
                          subst hyy
                          simp only [pv_okS, pv_okB, Bool.and_eq_true, decide_eq_true_eq] at hok
                          obtain ⟨⟨⟨⟨⟨⟨⟨⟨c1, c2⟩, c3⟩, c4⟩, c5⟩, c6⟩, c7⟩, c8⟩, c9⟩ := hok
                          have hst : st = (List.reverse (List.reverse (List.take (pv_np M2) st))) ++ List.drop (pv_np M2) st := by rw [List.reverse_reverse, List.take_append_drop]
                          rcases pv_ml_spec hy with ⟨-, hlw⟩ | ⟨z, -, hlw⟩
                          · exact pv_callM (va_runS (As := (st.take (pv_np M2)).reverse) (rest := st.drop (pv_np M2)) ⟨hx, hb, hml, hown, hts⟩ (pv_met_of ih (ws := ws) hev1 c6 hsl hR) ⟨callB_of (pv_np M2) hts (pv_GoodIn c8) rfl rfl rfl (hbig _ (pv_bigmem c7 rfl)) (hbig _ (pv_bigmem hlw rfl)) ⟨c1, c2, c3⟩ ⟨c4, c5⟩, hbig _ (pv_bigmem c9 rfl)⟩ ⟨pv_Pc.blind _ _, fun U hU hW => ⟨rfl, by rw [hU]; exact hP, hD, hWd.at hS hU hW⟩⟩ rfl (by rw [List.length_reverse]; exact htk) hl.1 hst (lv_room hsum) hdg ⟨Nat.zero_le _, Nat.zero_le _⟩) hS (fun H1 locs1 u hu1 hu2 hu3 hS1 => ih _ _ _ _ _ _ _ hev p e s m args below meth c H1 locs1 ls u hAct hts hl hu1 hu2 hu3 hS1)
                          · exact pv_callM (va_runSN (host := z) (As := (st.take (pv_np M2)).reverse) (rest := st.drop (pv_np M2)) ⟨hx, hb, hml, hown, hts⟩ (pv_met_of ih (ws := ws) hev1 c6 hsl hR) ⟨va_cnB (pv_np M2) hts (pv_GoodIn c8) rfl rfl rfl (hWd.2.2.2.1 _ _ _ _ hlw) (hbig _ (pv_bigmem c7 rfl)) ⟨c1, c2, c3⟩ ⟨c4, c5⟩, hbig _ (pv_bigmem c9 rfl), trivial⟩ ⟨pv_Pc.blind _ _, fun U hU hW => ⟨rfl, by rw [hU]; exact hP, hD, hWd.at hS hU hW⟩⟩ rfl (by rw [List.length_reverse]; exact htk) hl.1 hst (lv_room hsum) hdg ⟨Nat.zero_le _, Nat.zero_le _⟩) hS (fun H1 locs1 u hu1 hu2 hu3 hS1 => ih _ _ _ _ _ _ _ hev p e s m args below meth c H1 locs1 ls u hAct hts hl hu1 hu2 hu3 hS1)
                        · cases hs
                      · cases hs
                    · cases hs
                  · cases hs
                · cases hev
              · cases hev
      · cases hev
end SM
end
section
/-! ROWS OVER THE PURE MACHINE: ints by whole numbers. -/
abbrev pv_I (x : Int) : Int32 := Int32.ofInt x
abbrev pv_J (x : Int) : Int64 := Int64.ofInt x
abbrev pv_r (x : Int) : Prop := -2147483648 ≤ x ∧ x ≤ 2147483647
abbrev pv_q (x : Int) : Prop := -9223372036854775808 ≤ x ∧ x ≤ 9223372036854775807
theorem pv_I_toInt {x : Int} (h : pv_r x) : (pv_I x).toInt = x := Int32.toInt_ofInt_of_le h.1 (by have := h.2; omega)
theorem pv_J_toInt {x : Int} (h : pv_q x) : (pv_J x).toInt = x := Int64.toInt_ofInt_of_le h.1 (by have := h.2; omega)
theorem pv_I_rep (z : Int32) : pv_r z.toInt ∧ z = pv_I z.toInt := ⟨⟨Int32.le_toInt z, by have := Int32.toInt_lt z; omega⟩, (Int32.ofInt_toInt z).symm⟩
theorem pv_J_rep (z : Int64) : pv_q z.toInt ∧ z = pv_J z.toInt := ⟨⟨Int64.le_toInt z, by have := Int64.toInt_lt z; omega⟩, (Int64.ofInt_toInt z).symm⟩
theorem pv_I_add (x y : Int) : pv_I x + pv_I y = pv_I (x + y) := (Int32.ofInt_add ..).symm
theorem pv_I_sub (x y : Int) : pv_I x - pv_I y = pv_I (x - y) := (Int32.ofInt_sub ..).symm
theorem pv_I_mul (x y : Int) : pv_I x * pv_I y = pv_I (x * y) := (Int32.ofInt_mul ..).symm
theorem pv_I_neg (x : Int) : -(pv_I x) = pv_I (-x) := (Int32.ofInt_neg ..).symm
theorem pv_J_add (x y : Int) : pv_J x + pv_J y = pv_J (x + y) := (Int64.ofInt_add ..).symm
theorem pv_J_sub (x y : Int) : pv_J x - pv_J y = pv_J (x - y) := (Int64.ofInt_sub ..).symm
theorem pv_J_mul (x y : Int) : pv_J x * pv_J y = pv_J (x * y) := (Int64.ofInt_mul ..).symm
theorem pv_J_neg (x : Int) : -(pv_J x) = pv_J (-x) := (Int64.ofInt_neg ..).symm
theorem pv_I_lt {x y : Int} (hx : pv_r x) (hy : pv_r y) : (pv_I x < pv_I y) ↔ x < y := by rw [Int32.lt_iff_toInt_lt, pv_I_toInt hx, pv_I_toInt hy]
theorem pv_I_le {x y : Int} (hx : pv_r x) (hy : pv_r y) : (pv_I x ≤ pv_I y) ↔ x ≤ y := by rw [Int32.le_iff_toInt_le, pv_I_toInt hx, pv_I_toInt hy]
theorem pv_I_eq {x y : Int} (hx : pv_r x) (hy : pv_r y) : (pv_I x = pv_I y) ↔ x = y := by rw [← Int32.toInt_inj, pv_I_toInt hx, pv_I_toInt hy]
theorem pv_J_lt {x y : Int} (hx : pv_q x) (hy : pv_q y) : (pv_J x < pv_J y) ↔ x < y := by rw [Int64.lt_iff_toInt_lt, pv_J_toInt hx, pv_J_toInt hy]
theorem pv_J_eq {x y : Int} (hx : pv_q x) (hy : pv_q y) : (pv_J x = pv_J y) ↔ x = y := by rw [← Int64.toInt_inj, pv_J_toInt hx, pv_J_toInt hy]
theorem pv_I_nat {x : Int} (h0 : 0 ≤ x) (h : x ≤ 2147483647) : (pv_I x).toNatClampNeg = x.toNat := by
  show (pv_I x).toInt.toNat = _
  rw [pv_I_toInt ⟨by omega, h⟩]
theorem pv_in_I {x : Int} {n : Nat} (h0 : 0 ≤ x) (h : x < n) (hn : (n : Int) ≤ 2147483647) : pv_in (pv_I x) n = true := by
  simp only [pv_in, Bool.and_eq_true, decide_eq_true_eq]
  refine ⟨fun z => ?_, ?_⟩
  · have := (pv_I_lt (x := x) (y := 0) ⟨by omega, by omega⟩ ⟨by omega, by omega⟩).mp z
    omega
  · rw [pv_I_nat h0 (by omega)]
    omega
/-- comes to an end with Q -/
def pv_T (K : Nat → Nat) (M pc : Nat) (f : pv_F) (st : List Value) (h : pv_H) (Q : Option Value → pv_H → Prop) : Prop := ∃ n r h', pv_ev K n M pc f st h = some (r, h') ∧ Q r h'
abbrev pv_C (K : Nat → Nat) (M : Nat) (as : List Value) (h : pv_H) (Q : Option Value → pv_H → Prop) : Prop := pv_T K M 0 (pv_en as) [] h Q
theorem pv_T.mono {K : Nat → Nat} {M pc : Nat} {f : pv_F} {st : List Value} {h : pv_H} {Q Q' : Option Value → pv_H → Prop} (k : pv_T K M pc f st h Q) (hQ : ∀ r h', Q r h' → Q' r h') : pv_T K M pc f st h Q' := by
  obtain ⟨n, r, h', e, q⟩ := k
  exact ⟨n, r, h', e, hQ _ _ q⟩
section PW
variable {K : Nat → Nat} {M pc pc' len n : Nat} {f f' : pv_F} {st st' r : List Value} {h h' : pv_H} {Q : Option Value → pv_H → Prop} {i : Instr} {l : List (Option Value)}
theorem pw_step (hd : pv_dec M pc = some (i, len)) (hl : pv_ln i len = true) (hs : pv_sp (pv_mL M) pc f i st = some (pc', f', st')) (k : pv_T K M pc' f' st' h Q) : pv_T K M pc f st h Q := by
  obtain ⟨n, r, h', e, q⟩ := k
  refine ⟨n + 1, r, h', ?_, q⟩
  rw [pv_ev, hd]
  simp only [hl, if_true, hs]
  exact e
theorem pw_steph (hd : pv_dec M pc = some (i, len)) (hl : pv_ln i len = true) (h0 : pv_sp (pv_mL M) pc f i st = none) (hs : pv_sh K M pc i st h = some (pc', st', h')) (k : pv_T K M pc' f st' h' Q) : pv_T K M pc f st h Q := by
  obtain ⟨n, r, h2, e, q⟩ := k
  refine ⟨n + 1, r, h2, ?_, q⟩
  rw [pv_ev, hd]
  simp only [hl, if_true, h0, hs]
  exact e
theorem pw_ret {v : Option Value} (hd : pv_dec M pc = some (i, len)) (hl : pv_ln i len = true) (h0 : pv_sp (pv_mL M) pc f i st = none) (h1 : pv_sh K M pc i st h = none) (hs : pv_re M i st = some v) (k : Q v h) : pv_T K M pc f st h Q := by
  refine ⟨1, v, h, ?_, k⟩
  rw [pv_ev, hd]
  simp only [hl, if_true, h0, h1, hs]
theorem pw_call {M' : Nat} {as rest : List Value} {Q' : Option Value → pv_H → Prop} (hd : pv_dec M pc = some (i, len)) (hl : pv_ln i len = true) (h0 : pv_sp (pv_mL M) pc f i st = none) (h1 : pv_sh K M pc i st h = none) (h2 : pv_re M i st = none) (hs : pv_cs M i st h = some (M', as, rest)) (hc : pv_C K M' as h Q') (k : ∀ r h', Q' r h' → pv_T K M (pc + 3) f (r.toList ++ rest) h' Q) : pv_T K M pc f st h Q := by
  obtain ⟨n1, r1, h1', e1, q1⟩ := hc
  obtain ⟨n2, r2, h2', e2, q2⟩ := k r1 h1' q1
  refine ⟨max n1 n2 + 1, r2, h2', ?_, q2⟩
  rw [pv_ev, hd]
  simp only [hl, if_true, h0, h1, h2, hs]
  rw [pv_ev_mono K _ _ _ _ _ _ _ e1 _ (Nat.le_max_left _ _)]
  exact pv_ev_mono K _ _ _ _ _ _ _ e2 _ (Nat.le_max_right _ _)
/-- a store into the list of locals -/
def pv_kl (o : Option Value) : Option Value := match o with
  | some w => if w.category = 2 then none else some w
  | none => none
def pv_ls : List (Option Value) → Nat → Value → List (Option Value)
  | [], _, _ => []
  | _ :: t, 0, v => some v :: t
  | o :: t, 1, v => pv_kl o :: pv_ls t 0 v
  | o :: t, k + 2, v => o :: pv_ls t (k + 1) v
def pv_nx : List (Option Value) → List (Option Value)
  | [] => []
  | _ :: t => none :: t
def pv_ls2 : List (Option Value) → Nat → Value → List (Option Value)
  | [], _, _ => []
  | _ :: t, 0, v => some v :: pv_nx t
  | o :: t, 1, v => pv_kl o :: pv_ls2 t 0 v
  | o :: t, k + 2, v => o :: pv_ls2 t (k + 1) v
theorem pv_fl_cons (o : Option Value) (t : List (Option Value)) (j : Nat) : pv_fl (o :: t) j = match j with
    | 0 => o
    | j + 1 => pv_fl t j := by
  cases j <;> rfl
theorem pv_up1_zero (f : pv_F) (v : Value) : pv_up1 f 0 v = fun j => match j with
    | 0 => some v
    | j + 1 => f (j + 1) := by
  funext j
  unfold pv_up1
  cases j with
  | zero => rfl
  | succ j =>
    rw [if_neg (by omega)]
    cases hf : f (j + 1) with
    | none => simp [hf]
    | some w => simp [hf]
theorem pv_fl_ls : ∀ (l : List (Option Value)) (k : Nat) (v : Value), k < l.length → pv_up1 (pv_fl l) k v = pv_fl (pv_ls l k v) := by
  intro l
  induction l with
  | nil => intro k v h; simp at h
  | cons o t ih =>
    intro k v h
    match k, h with
    | 0, h =>
      rw [pv_up1_zero]
      funext j
      cases j <;> rfl
    | 1, h =>
      funext j
      rw [show pv_ls (o :: t) 1 v = pv_kl o :: pv_ls t 0 v from rfl, pv_fl_cons]
      have h2 := ih 0 v (by simp only [List.length_cons] at h; omega)
      rw [← h2]
      cases j with
      | zero =>
        show pv_up1 (pv_fl (o :: t)) 1 v 0 = pv_kl o
        unfold pv_up1 pv_kl
        rw [if_neg (by omega)]
        rw [show pv_fl (o :: t) 0 = o from rfl]
        cases o with
        | none => rfl
        | some w => simp
      | succ j =>
        show pv_up1 (pv_fl (o :: t)) 1 v (j + 1) = pv_up1 (pv_fl t) 0 v j
        unfold pv_up1
        simp only [pv_fl_cons]
        by_cases hj : j = 0
        · subst hj; simp
        · rw [if_neg (by omega), if_neg hj]
          cases pv_fl t j with
          | none => rfl
          | some w => simp <;> omega
    | k + 2, h =>
      funext j
      rw [show pv_ls (o :: t) (k + 2) v = o :: pv_ls t (k + 1) v from rfl, pv_fl_cons]
      have h2 := ih (k + 1) v (by simp only [List.length_cons] at h; omega)
      rw [← h2]
      cases j with
      | zero =>
        show pv_up1 (pv_fl (o :: t)) (k + 2) v 0 = o
        unfold pv_up1
        rw [if_neg (by omega)]
        rw [show pv_fl (o :: t) 0 = o from rfl]
        cases o with
        | none => rfl
        | some w => simp
      | succ j =>
        show pv_up1 (pv_fl (o :: t)) (k + 2) v (j + 1) = pv_up1 (pv_fl t) (k + 1) v j
        unfold pv_up1
        simp only [pv_fl_cons]
        by_cases hj : j = k + 1
        · subst hj; simp
        · rw [if_neg (by omega), if_neg hj]
          cases pv_fl t j with
          | none => rfl
          | some w =>
            have : (j + 1 + 1 = k + 2) ↔ (j + 1 = k + 1) := by omega
            simp only [this]
theorem pv_fl_nx (t : List (Option Value)) (j : Nat) : pv_fl (pv_nx t) j = if j = 0 then none else pv_fl t j := by
  cases t with
  | nil => cases j <;> rfl
  | cons o t => cases j <;> rfl
theorem pv_fl_ls2 : ∀ (l : List (Option Value)) (k : Nat) (v : Value), k < l.length → pv_up2 (pv_fl l) k v = pv_fl (pv_ls2 l k v) := by
  intro l
  induction l with
  | nil => intro k v h; simp at h
  | cons o t ih =>
    intro k v h
    match k, h with
    | 0, h =>
      funext j
      unfold pv_up2
      cases j with
      | zero => rfl
      | succ j =>
        rw [show pv_ls2 (o :: t) 0 v = some v :: pv_nx t from rfl, pv_fl_cons, if_neg (by omega)]
        show _ = pv_fl (pv_nx t) j
        rw [pv_fl_nx]
        by_cases hj : j = 0
        · subst hj; simp
        · rw [if_neg (by omega), if_neg hj]
          show (match pv_fl t j with | some w => _ | none => _) = _
          cases pv_fl t j with
          | none => rfl
          | some w => simp
    | 1, h =>
      funext j
      rw [show pv_ls2 (o :: t) 1 v = pv_kl o :: pv_ls2 t 0 v from rfl, pv_fl_cons]
      have h2 := ih 0 v (by simp only [List.length_cons] at h; omega)
      rw [← h2]
      cases j with
      | zero =>
        show pv_up2 (pv_fl (o :: t)) 1 v 0 = pv_kl o
        unfold pv_up2 pv_kl
        rw [if_neg (by omega), if_neg (by omega)]
        rw [show pv_fl (o :: t) 0 = o from rfl]
        cases o with
        | none => rfl
        | some w => simp
      | succ j =>
        show pv_up2 (pv_fl (o :: t)) 1 v (j + 1) = pv_up2 (pv_fl t) 0 v j
        unfold pv_up2
        simp only [pv_fl_cons]
        by_cases hj : j = 0
        · subst hj; simp
        · by_cases hj1 : j = 1
          · subst hj1; simp
          · rw [if_neg (by omega), if_neg (by omega), if_neg hj, if_neg (by omega)]
            cases pv_fl t j with
            | none => rfl
            | some w => simp <;> omega
    | k + 2, h =>
      funext j
      rw [show pv_ls2 (o :: t) (k + 2) v = o :: pv_ls2 t (k + 1) v from rfl, pv_fl_cons]
      have h2 := ih (k + 1) v (by simp only [List.length_cons] at h; omega)
      rw [← h2]
      cases j with
      | zero =>
        show pv_up2 (pv_fl (o :: t)) (k + 2) v 0 = o
        unfold pv_up2
        rw [if_neg (by omega), if_neg (by omega)]
        rw [show pv_fl (o :: t) 0 = o from rfl]
        cases o with
        | none => rfl
        | some w => simp
      | succ j =>
        show pv_up2 (pv_fl (o :: t)) (k + 2) v (j + 1) = pv_up2 (pv_fl t) (k + 1) v j
        unfold pv_up2
        simp only [pv_fl_cons]
        by_cases hj : j = k + 1
        · subst hj; simp
        · by_cases hj1 : j = k + 1 + 1
          · subst hj1; simp
          · rw [if_neg (by omega), if_neg (by omega), if_neg hj, if_neg hj1]
            cases pv_fl t j with
            | none => rfl
            | some w =>
              have : (j + 1 + 1 = k + 2) ↔ (j + 1 = k + 1) := by omega
              simp only [this]
/-- the entry's locals, filled up -/
theorem pv_fl_pad (l : List (Option Value)) (n : Nat) : pv_fl l = pv_fl (l ++ List.replicate n none) := by
  funext j
  unfold pv_fl
  by_cases hj : j < l.length
  · rw [List.getElem?_append_left hj]
  · rw [List.getElem?_append_right (by omega), List.getElem?_eq_none (by omega)]
    by_cases hr : j - l.length < n
    · simp [List.getElem?_replicate, hr]
    · simp [List.getElem?_replicate, hr]
theorem pw_entry {as : List Value} (n : Nat) (k : pv_T K M 0 (pv_fl (pv_es as ++ List.replicate n none)) [] h Q) : pv_C K M as h Q := by
  show pv_T K M 0 (pv_fl (pv_es as)) [] h Q
  rw [pv_fl_pad _ n]
  exact k
theorem pw_iconst {x : Int} (hd : pv_dec M pc = some (.iconst x, 1)) (k : pv_T K M (pc + 1) f (.int (pv_I x) :: st) h Q) : pv_T K M pc f st h Q := pw_step hd rfl rfl k
theorem pw_bipush {x : Int} (hd : pv_dec M pc = some (.bipush x, 2)) (hx : (Int8.ofInt x).toInt32 = pv_I x) (k : pv_T K M (pc + 2) f (.int (pv_I x) :: st) h Q) : pv_T K M pc f st h Q := pw_step hd rfl (by rw [← hx]; rfl) k
theorem pw_sipush {x : Int} (hd : pv_dec M pc = some (.sipush x, 3)) (hx : (Int16.ofInt x).toInt32 = pv_I x) (k : pv_T K M (pc + 3) f (.int (pv_I x) :: st) h Q) : pv_T K M pc f st h Q := pw_step hd rfl (by rw [← hx]; rfl) k
theorem pw_lconst {x : Fin 2} {z : Int} (hd : pv_dec M pc = some (.lconst x, 1)) (hx : Int64.ofNat (x : Nat) = pv_J z) (k : pv_T K M (pc + 1) f (.long (pv_J z) :: st) h Q) : pv_T K M pc f st h Q := pw_step hd rfl (by rw [← hx]; rfl) k
theorem pw_iload {j : Nat} {x : Int32} (hd : pv_dec M pc = some (.iload j, 2)) (hf : l[j]? = some (some (.int x))) (k : pv_T K M (pc + 2) (pv_fl l) (.int x :: st) h Q) : pv_T K M pc (pv_fl l) st h Q := pw_step hd rfl (by simp only [pv_sp, pv_fl, hf]) k
theorem pw_iload_n {j : Fin 4} {x : Int32} (hd : pv_dec M pc = some (.iload_n j, 1)) (hf : l[(j : Nat)]? = some (some (.int x))) (k : pv_T K M (pc + 1) (pv_fl l) (.int x :: st) h Q) : pv_T K M pc (pv_fl l) st h Q := pw_step hd rfl (by simp only [pv_sp, pv_fl, hf]) k
theorem pw_lload {j : Nat} {x : Int64} (hd : pv_dec M pc = some (.lload j, 2)) (hf : l[j]? = some (some (.long x))) (k : pv_T K M (pc + 2) (pv_fl l) (.long x :: st) h Q) : pv_T K M pc (pv_fl l) st h Q := pw_step hd rfl (by simp only [pv_sp, pv_fl, hf]) k
theorem pw_lload_n {j : Fin 4} {x : Int64} (hd : pv_dec M pc = some (.lload_n j, 1)) (hf : l[(j : Nat)]? = some (some (.long x))) (k : pv_T K M (pc + 1) (pv_fl l) (.long x :: st) h Q) : pv_T K M pc (pv_fl l) st h Q := pw_step hd rfl (by simp only [pv_sp, pv_fl, hf]) k
theorem pw_aload {j : Nat} {x : Nat} (hd : pv_dec M pc = some (.aload j, 2)) (hf : l[j]? = some (some (.ref x))) (k : pv_T K M (pc + 2) (pv_fl l) (.ref x :: st) h Q) : pv_T K M pc (pv_fl l) st h Q := pw_step hd rfl (by simp only [pv_sp, pv_fl, hf]) k
theorem pw_aload_n {j : Fin 4} {x : Nat} (hd : pv_dec M pc = some (.aload_n j, 1)) (hf : l[(j : Nat)]? = some (some (.ref x))) (k : pv_T K M (pc + 1) (pv_fl l) (.ref x :: st) h Q) : pv_T K M pc (pv_fl l) st h Q := pw_step hd rfl (by simp only [pv_sp, pv_fl, hf]) k
theorem pw_istore {j : Nat} {x : Int32} (hd : pv_dec M pc = some (.istore j, 2)) (hn : pv_mL M = n) (hj : Nat.blt (j) n = true) (hl : Nat.blt j l.length = true) (k : pv_T K M (pc + 2) (pv_fl (pv_ls l j (.int x))) st h Q) : pv_T K M pc (pv_fl l) (.int x :: st) h Q := pw_step hd rfl (by simp only [pv_sp, hn, if_pos (Nat.blt_eq.mp hj)]; rw [pv_fl_ls _ _ _ (Nat.blt_eq.mp hl)]) k
theorem pw_istore_n {j : Fin 4} {x : Int32} (hd : pv_dec M pc = some (.istore_n j, 1)) (hn : pv_mL M = n) (hj : Nat.blt ((j : Nat)) n = true) (hl : Nat.blt (j : Nat) l.length = true) (k : pv_T K M (pc + 1) (pv_fl (pv_ls l j (.int x))) st h Q) : pv_T K M pc (pv_fl l) (.int x :: st) h Q := pw_step hd rfl (by simp only [pv_sp, hn, if_pos (Nat.blt_eq.mp hj)]; rw [pv_fl_ls _ _ _ (Nat.blt_eq.mp hl)]) k
theorem pw_lstore {j : Nat} {x : Int64} (hd : pv_dec M pc = some (.lstore j, 2)) (hn : pv_mL M = n) (hj : Nat.blt (j + 1) n = true) (hl : Nat.blt j l.length = true) (k : pv_T K M (pc + 2) (pv_fl (pv_ls2 l j (.long x))) st h Q) : pv_T K M pc (pv_fl l) (.long x :: st) h Q := pw_step hd rfl (by simp only [pv_sp, hn, if_pos (Nat.blt_eq.mp hj)]; rw [pv_fl_ls2 _ _ _ (Nat.blt_eq.mp hl)]) k
theorem pw_lstore_n {j : Fin 4} {x : Int64} (hd : pv_dec M pc = some (.lstore_n j, 1)) (hn : pv_mL M = n) (hj : Nat.blt ((j : Nat) + 1) n = true) (hl : Nat.blt (j : Nat) l.length = true) (k : pv_T K M (pc + 1) (pv_fl (pv_ls2 l j (.long x))) st h Q) : pv_T K M pc (pv_fl l) (.long x :: st) h Q := pw_step hd rfl (by simp only [pv_sp, hn, if_pos (Nat.blt_eq.mp hj)]; rw [pv_fl_ls2 _ _ _ (Nat.blt_eq.mp hl)]) k
theorem pw_astore {j : Nat} {x : Nat} (hd : pv_dec M pc = some (.astore j, 2)) (hn : pv_mL M = n) (hj : Nat.blt (j) n = true) (hl : Nat.blt j l.length = true) (k : pv_T K M (pc + 2) (pv_fl (pv_ls l j (.ref x))) st h Q) : pv_T K M pc (pv_fl l) (.ref x :: st) h Q := pw_step hd rfl (by simp only [pv_sp, hn, if_pos (Nat.blt_eq.mp hj)]; rw [pv_fl_ls _ _ _ (Nat.blt_eq.mp hl)]) k
theorem pw_astore_n {j : Fin 4} {x : Nat} (hd : pv_dec M pc = some (.astore_n j, 1)) (hn : pv_mL M = n) (hj : Nat.blt ((j : Nat)) n = true) (hl : Nat.blt (j : Nat) l.length = true) (k : pv_T K M (pc + 1) (pv_fl (pv_ls l j (.ref x))) st h Q) : pv_T K M pc (pv_fl l) (.ref x :: st) h Q := pw_step hd rfl (by simp only [pv_sp, hn, if_pos (Nat.blt_eq.mp hj)]; rw [pv_fl_ls _ _ _ (Nat.blt_eq.mp hl)]) k
theorem pw_iinc {j : Nat} {x z : Int} (hd : pv_dec M pc = some (.iinc j z, 3)) (hn : pv_mL M = n) (hj : Nat.blt j n = true) (hl : Nat.blt j l.length = true) (hf : l[j]? = some (some (.int (pv_I x)))) (k : pv_T K M (pc + 3) (pv_fl (pv_ls l j (.int (pv_I (x + z))))) st h Q) : pv_T K M pc (pv_fl l) st h Q := pw_step hd rfl (by simp only [pv_sp, pv_fl, hf, hn, if_pos (Nat.blt_eq.mp hj)]; rw [show pv_I x + Int32.ofInt z = pv_I (x + z) from pv_I_add x z, ← pv_fl_ls _ _ _ (Nat.blt_eq.mp hl)]) k
theorem pw_iadd {x y : Int} (hd : pv_dec M pc = some (.iadd, 1)) (k : pv_T K M (pc + 1) f (.int (pv_I (x + y)) :: st) h Q) : pv_T K M pc f (.int (pv_I y) :: .int (pv_I x) :: st) h Q := pw_step hd rfl (by simp only [pv_sp]; rw [pv_I_add]) k
theorem pw_ladd {x y : Int} (hd : pv_dec M pc = some (.ladd, 1)) (k : pv_T K M (pc + 1) f (.long (pv_J (x + y)) :: st) h Q) : pv_T K M pc f (.long (pv_J y) :: .long (pv_J x) :: st) h Q := pw_step hd rfl (by simp only [pv_sp]; rw [pv_J_add]) k
theorem pw_isub {x y : Int} (hd : pv_dec M pc = some (.isub, 1)) (k : pv_T K M (pc + 1) f (.int (pv_I (x - y)) :: st) h Q) : pv_T K M pc f (.int (pv_I y) :: .int (pv_I x) :: st) h Q := pw_step hd rfl (by simp only [pv_sp]; rw [pv_I_sub]) k
theorem pw_lsub {x y : Int} (hd : pv_dec M pc = some (.lsub, 1)) (k : pv_T K M (pc + 1) f (.long (pv_J (x - y)) :: st) h Q) : pv_T K M pc f (.long (pv_J y) :: .long (pv_J x) :: st) h Q := pw_step hd rfl (by simp only [pv_sp]; rw [pv_J_sub]) k
theorem pw_imul {x y : Int} (hd : pv_dec M pc = some (.imul, 1)) (k : pv_T K M (pc + 1) f (.int (pv_I (x * y)) :: st) h Q) : pv_T K M pc f (.int (pv_I y) :: .int (pv_I x) :: st) h Q := pw_step hd rfl (by simp only [pv_sp]; rw [pv_I_mul]) k
theorem pw_lmul {x y : Int} (hd : pv_dec M pc = some (.lmul, 1)) (k : pv_T K M (pc + 1) f (.long (pv_J (x * y)) :: st) h Q) : pv_T K M pc f (.long (pv_J y) :: .long (pv_J x) :: st) h Q := pw_step hd rfl (by simp only [pv_sp]; rw [pv_J_mul]) k
theorem pw_ineg {x : Int} (hd : pv_dec M pc = some (.ineg, 1)) (k : pv_T K M (pc + 1) f (.int (pv_I (-x)) :: st) h Q) : pv_T K M pc f (.int (pv_I x) :: st) h Q := pw_step hd rfl (by simp only [pv_sp]; rw [pv_I_neg]) k
theorem pw_lneg {x : Int} (hd : pv_dec M pc = some (.lneg, 1)) (k : pv_T K M (pc + 1) f (.long (pv_J (-x)) :: st) h Q) : pv_T K M pc f (.long (pv_J x) :: st) h Q := pw_step hd rfl (by simp only [pv_sp]; rw [pv_J_neg]) k
/-- a number that is forgotten but for its being an int, a long -/
theorem pw_any {x : Int32} (k : ∀ z, pv_r z → x = pv_I z → pv_T K M pc f (.int (pv_I z) :: st) h Q) : pv_T K M pc f (.int x :: st) h Q := by
  have h1 := pv_I_rep x
  have h2 := k x.toInt h1.1 h1.2
  rw [← h1.2] at h2
  exact h2
theorem pw_anyl {x : Int64} (k : ∀ z, pv_q z → x = pv_J z → pv_T K M pc f (.long (pv_J z) :: st) h Q) : pv_T K M pc f (.long x :: st) h Q := by
  have h1 := pv_J_rep x
  have h2 := k x.toInt h1.1 h1.2
  rw [← h1.2] at h2
  exact h2
theorem pw_iand {x y : Int32} (hd : pv_dec M pc = some (.iand, 1)) (k : ∀ z, pv_r z → x &&& y = pv_I z → pv_T K M (pc + 1) f (.int (pv_I z) :: st) h Q) : pv_T K M pc f (.int y :: .int x :: st) h Q := pw_step hd rfl rfl (pw_any k)
theorem pw_ior {x y : Int32} (hd : pv_dec M pc = some (.ior, 1)) (k : ∀ z, pv_r z → x ||| y = pv_I z → pv_T K M (pc + 1) f (.int (pv_I z) :: st) h Q) : pv_T K M pc f (.int y :: .int x :: st) h Q := pw_step hd rfl rfl (pw_any k)
theorem pw_ixor {x y : Int32} (hd : pv_dec M pc = some (.ixor, 1)) (k : ∀ z, pv_r z → x ^^^ y = pv_I z → pv_T K M (pc + 1) f (.int (pv_I z) :: st) h Q) : pv_T K M pc f (.int y :: .int x :: st) h Q := pw_step hd rfl rfl (pw_any k)
theorem pw_ishl {x y : Int32} (hd : pv_dec M pc = some (.ishl, 1)) (k : ∀ z, pv_r z → x <<< (y &&& 31) = pv_I z → pv_T K M (pc + 1) f (.int (pv_I z) :: st) h Q) : pv_T K M pc f (.int y :: .int x :: st) h Q := pw_step hd rfl rfl (pw_any k)
theorem pw_ishr {x y : Int32} (hd : pv_dec M pc = some (.ishr, 1)) (k : ∀ z, pv_r z → x >>> (y &&& 31) = pv_I z → pv_T K M (pc + 1) f (.int (pv_I z) :: st) h Q) : pv_T K M pc f (.int y :: .int x :: st) h Q := pw_step hd rfl rfl (pw_any k)
theorem pw_iushr {x y : Int32} (hd : pv_dec M pc = some (.iushr, 1)) (k : ∀ z, pv_r z → (x.toUInt32 >>> (y.toUInt32 &&& Int32.toUInt32 31)).toInt32 = pv_I z → pv_T K M (pc + 1) f (.int (pv_I z) :: st) h Q) : pv_T K M pc f (.int y :: .int x :: st) h Q := pw_step hd rfl rfl (pw_any k)
theorem pw_land {x y : Int64} (hd : pv_dec M pc = some (.land, 1)) (k : ∀ z, pv_q z → x &&& y = pv_J z → pv_T K M (pc + 1) f (.long (pv_J z) :: st) h Q) : pv_T K M pc f (.long y :: .long x :: st) h Q := pw_step hd rfl rfl (pw_anyl k)
theorem pw_lor {x y : Int64} (hd : pv_dec M pc = some (.lor, 1)) (k : ∀ z, pv_q z → x ||| y = pv_J z → pv_T K M (pc + 1) f (.long (pv_J z) :: st) h Q) : pv_T K M pc f (.long y :: .long x :: st) h Q := pw_step hd rfl rfl (pw_anyl k)
theorem pw_lshl {x : Int64} {y : Int32} (hd : pv_dec M pc = some (.lshl, 1)) (k : ∀ z, pv_q z → x <<< (y.toInt64 &&& 63) = pv_J z → pv_T K M (pc + 1) f (.long (pv_J z) :: st) h Q) : pv_T K M pc f (.int y :: .long x :: st) h Q := pw_step hd rfl rfl (pw_anyl k)
theorem pw_lshr {x : Int64} {y : Int32} (hd : pv_dec M pc = some (.lshr, 1)) (k : ∀ z, pv_q z → x >>> (y.toInt64 &&& 63) = pv_J z → pv_T K M (pc + 1) f (.long (pv_J z) :: st) h Q) : pv_T K M pc f (.int y :: .long x :: st) h Q := pw_step hd rfl rfl (pw_anyl k)
/-- divisions -/
theorem pv_I_div {x y : Int} (hx : pv_r x) (hy : pv_r y) (h : ¬ (x = -2147483648 ∧ y = -1)) : pv_I x / pv_I y = pv_I (x.tdiv y) := by
  have h1 := pv_I_rep (pv_I x / pv_I y)
  rw [h1.2]
  congr 1
  rw [Int32.toInt_div, pv_I_toInt hx, pv_I_toInt hy]
  have hb : -2147483648 ≤ x.tdiv y ∧ x.tdiv y ≤ 2147483647 := by
    have e1 : (x.tdiv y).natAbs = x.natAbs / y.natAbs := Int.natAbs_tdiv x y
    have e2 : x.natAbs / y.natAbs ≤ x.natAbs := Nat.div_le_self _ _
    by_cases hm : x = -2147483648
    · by_cases hy1 : y = 1
      · subst hy1; simp; omega
      · by_cases hy0 : y = 0
        · subst hy0; simp
        · have : 2 ≤ y.natAbs := by
            have : y ≠ -1 := fun z => h ⟨hm, z⟩
            omega
          have e3 : x.natAbs / y.natAbs ≤ x.natAbs / 2 := Nat.div_le_div_left this (by omega)
          omega
    · omega
  rw [Int.bmod_eq_of_le (by omega) (by omega)]
theorem pv_I_divn {x y : Int} (hx : pv_r x) (hy : pv_r y) (h0 : 0 ≤ x) : pv_I x / pv_I y = pv_I (x / y) := by
  rw [pv_I_div hx hy (by omega), Int.tdiv_eq_ediv_of_nonneg h0]
theorem pv_I_ne0 {y : Int} (hy : pv_r y) (hne : y ≠ 0) : ¬ pv_I y = 0 := fun z => hne ((pv_I_eq (y := 0) hy ⟨by omega, by omega⟩).mp z)
theorem pv_J_ne0 {y : Int} (hy : pv_q y) (hne : y ≠ 0) : ¬ pv_J y = 0 := fun z => hne ((pv_J_eq (y := 0) hy ⟨by omega, by omega⟩).mp z)
theorem pw_idiv {x y : Int} (hd : pv_dec M pc = some (.idiv, 1)) (hx : pv_r x) (hy : pv_r y) (h0 : 0 ≤ x) (hne : y ≠ 0) (k : pv_T K M (pc + 1) f (.int (pv_I (x / y)) :: st) h Q) : pv_T K M pc f (.int (pv_I y) :: .int (pv_I x) :: st) h Q := pw_step hd rfl (by simp only [pv_sp]; rw [if_neg (pv_I_ne0 hy hne), pv_I_divn hx hy h0]) k
theorem pw_idivU {x : Int32} {y : Int} (hd : pv_dec M pc = some (.idiv, 1)) (hy : pv_r y) (hne : y ≠ 0) (k : ∀ z, pv_r z → x / pv_I y = pv_I z → pv_T K M (pc + 1) f (.int (pv_I z) :: st) h Q) : pv_T K M pc f (.int (pv_I y) :: .int x :: st) h Q := pw_step hd rfl (by simp only [pv_sp]; rw [if_neg (pv_I_ne0 hy hne)]) (pw_any k)
theorem pw_irem {x y : Int} (hd : pv_dec M pc = some (.irem, 1)) (hx : pv_r x) (hy : pv_r y) (h0 : 0 ≤ x) (hne : y ≠ 0) (k : pv_T K M (pc + 1) f (.int (pv_I (x % y)) :: st) h Q) : pv_T K M pc f (.int (pv_I y) :: .int (pv_I x) :: st) h Q := pw_step hd rfl (by simp only [pv_sp]; rw [if_neg (pv_I_ne0 hy hne), pv_I_divn hx hy h0, pv_I_mul, pv_I_sub, show x - x / y * y = x % y by rw [Int.emod_def, Int.mul_comm]]) k
theorem pw_iremU {x : Int32} {y : Int} (hd : pv_dec M pc = some (.irem, 1)) (hy : pv_r y) (hne : y ≠ 0) (k : ∀ z, pv_r z → x - x / pv_I y * pv_I y = pv_I z → pv_T K M (pc + 1) f (.int (pv_I z) :: st) h Q) : pv_T K M pc f (.int (pv_I y) :: .int x :: st) h Q := pw_step hd rfl (by simp only [pv_sp]; rw [if_neg (pv_I_ne0 hy hne)]) (pw_any k)
theorem pw_ldivU {x : Int64} {y : Int} (hd : pv_dec M pc = some (.ldiv, 1)) (hy : pv_q y) (hne : y ≠ 0) (k : ∀ z, pv_q z → x / pv_J y = pv_J z → pv_T K M (pc + 1) f (.long (pv_J z) :: st) h Q) : pv_T K M pc f (.long (pv_J y) :: .long x :: st) h Q := pw_step hd rfl (by simp only [pv_sp]; rw [if_neg (pv_J_ne0 hy hne)]) (pw_anyl k)
theorem pw_lremU {x : Int64} {y : Int} (hd : pv_dec M pc = some (.lrem, 1)) (hy : pv_q y) (hne : y ≠ 0) (k : ∀ z, pv_q z → x - x / pv_J y * pv_J y = pv_J z → pv_T K M (pc + 1) f (.long (pv_J z) :: st) h Q) : pv_T K M pc f (.long (pv_J y) :: .long x :: st) h Q := pw_step hd rfl (by simp only [pv_sp]; rw [if_neg (pv_J_ne0 hy hne)]) (pw_anyl k)
theorem pw_lcmp {x y : Int} (hd : pv_dec M pc = some (.lcmp, 1)) (hx : pv_q x) (hy : pv_q y) (k : ∀ z, (x < y ∧ z = -1) ∨ (x = y ∧ z = 0) ∨ (y < x ∧ z = 1) → pv_T K M (pc + 1) f (.int (pv_I z) :: st) h Q) : pv_T K M pc f (.long (pv_J y) :: .long (pv_J x) :: st) h Q := by
  refine pw_step hd rfl rfl ?_
  unfold lg_cmp
  by_cases h1 : y < x
  · have e : pv_J x > pv_J y := (pv_J_lt hy hx).mpr h1
    rw [if_pos e]
    exact k 1 (Or.inr (Or.inr ⟨h1, rfl⟩))
  · have e : ¬ pv_J x > pv_J y := fun z => h1 ((pv_J_lt hy hx).mp z)
    rw [if_neg e]
    by_cases h2 : x = y
    · rw [if_pos (by rw [h2])]
      exact k 0 (Or.inr (Or.inl ⟨h2, rfl⟩))
    · rw [if_neg (fun z => h2 ((pv_J_eq hx hy).mp z))]
      exact k (-1) (Or.inl ⟨by omega, rfl⟩)
theorem pw_i2l {x : Int} (hd : pv_dec M pc = some (.i2l, 1)) (hx : pv_r x) (k : pv_T K M (pc + 1) f (.long (pv_J x) :: st) h Q) : pv_T K M pc f (.int (pv_I x) :: st) h Q := pw_step hd rfl (by
  simp only [pv_sp]
  have : (pv_I x).toInt64 = pv_J x := by
    rw [← Int64.toInt_inj, Int32.toInt_toInt64, pv_I_toInt hx, pv_J_toInt ⟨by omega, by omega⟩]
  rw [this]) k
theorem pw_l2i {x : Int} (hd : pv_dec M pc = some (.l2i, 1)) (k : pv_T K M (pc + 1) f (.int (pv_I x) :: st) h Q) : pv_T K M pc f (.long (pv_J x) :: st) h Q := pw_step hd rfl (by
  simp only [pv_sp]
  have : (pv_J x).toInt32 = pv_I x := Int64.toInt32_ofInt
  rw [this]) k
theorem pw_i2b {x : Int32} (hd : pv_dec M pc = some (.i2b, 1)) (k : ∀ z, -128 ≤ z → z ≤ 127 → x.toInt8.toInt32 = pv_I z → pv_T K M (pc + 1) f (.int (pv_I z) :: st) h Q) : pv_T K M pc f (.int x :: st) h Q := pw_step hd rfl rfl (pw_any fun z hz e => k z (by
  have e2 : (x.toInt8.toInt32).toInt = z := by rw [e, pv_I_toInt hz]
  rw [Int8.toInt_toInt32] at e2
  have := Int8.le_toInt x.toInt8
  omega) (by
  have e2 : (x.toInt8.toInt32).toInt = z := by rw [e, pv_I_toInt hz]
  rw [Int8.toInt_toInt32] at e2
  have := Int8.toInt_lt x.toInt8
  omega) e)
theorem pw_i2s {x : Int32} (hd : pv_dec M pc = some (.i2s, 1)) (k : ∀ z, pv_r z → x.toInt16.toInt32 = pv_I z → pv_T K M (pc + 1) f (.int (pv_I z) :: st) h Q) : pv_T K M pc f (.int x :: st) h Q := pw_step hd rfl rfl (pw_any k)
theorem pw_dup {v : Value} (hd : pv_dec M pc = some (.dup, 1)) (hv : v.category = 1) (k : pv_T K M (pc + 1) f (v :: v :: st) h Q) : pv_T K M pc f (v :: st) h Q := pw_step hd rfl (by simp only [pv_sp]; rw [if_pos hv]) k
theorem pw_dup2 {v w : Value} (hd : pv_dec M pc = some (.dup2, 1)) (hv : v.category = 1) (hw : w.category = 1) (k : pv_T K M (pc + 1) f (v :: w :: v :: w :: st) h Q) : pv_T K M pc f (v :: w :: st) h Q := pw_step hd rfl (by simp only [pv_sp]; rw [if_pos ⟨hv, hw⟩]) k
theorem pw_pop {v : Value} (hd : pv_dec M pc = some (.pop, 1)) (hv : v.category = 1) (k : pv_T K M (pc + 1) f st h Q) : pv_T K M pc f (v :: st) h Q := pw_step hd rfl (by simp only [pv_sp]; rw [if_pos hv]) k
theorem pw_pop2 {v : Value} (hd : pv_dec M pc = some (.pop2, 1)) (hv : v.category = 2) (k : pv_T K M (pc + 1) f st h Q) : pv_T K M pc f (v :: st) h Q := pw_step hd rfl (by simp only [pv_sp]; rw [if_pos hv]) k
theorem pw_goto {z : Int} {t : Nat} (hd : pv_dec M pc = some (.goto z, 3)) (ht : pv_tg pc z = some t) (k : pv_T K M t f st h Q) : pv_T K M pc f st h Q := pw_step hd rfl (by simp only [pv_sp, ht]) k
theorem pw_icmp_eq {x y z : Int} {t : Nat} (hd : pv_dec M pc = some (.if_icmp .eq z, 3)) (ht : pv_tg pc z = some t) (hx : pv_r x) (hy : pv_r y) (kt : x = y → pv_T K M t f st h Q) (kf : x ≠ y → pv_T K M (pc + 3) f st h Q) : pv_T K M pc f (.int (pv_I y) :: .int (pv_I x) :: st) h Q := by
  by_cases hc : x = y
  · exact pw_step hd rfl (by simp only [pv_sp, ht]; rw [if_pos (by simp only [pv_cb, decide_eq_true_eq]; exact (pv_I_eq hx hy).mpr hc)]) (kt hc)
  · exact pw_step hd rfl (by simp only [pv_sp, ht]; rw [if_neg (by simp only [pv_cb, decide_eq_true_eq]; exact fun q => hc ((pv_I_eq hx hy).mp q))]) (kf (by omega))
theorem pw_if_eq {x z : Int} {t : Nat} (hd : pv_dec M pc = some (.ifCond .eq z, 3)) (ht : pv_tg pc z = some t) (hx : pv_r x) (kt : x = 0 → pv_T K M t f st h Q) (kf : x ≠ 0 → pv_T K M (pc + 3) f st h Q) : pv_T K M pc f (.int (pv_I x) :: st) h Q := by
  have hy : pv_r 0 := ⟨by omega, by omega⟩
  by_cases hc : x = 0
  · exact pw_step hd rfl (by simp only [pv_sp, ht]; rw [if_pos (by simp only [pv_cb, decide_eq_true_eq]; exact (pv_I_eq hx hy).mpr hc)]) (kt hc)
  · exact pw_step hd rfl (by simp only [pv_sp, ht]; rw [if_neg (by simp only [pv_cb, decide_eq_true_eq]; exact fun q => hc ((pv_I_eq hx hy).mp q))]) (kf (by omega))
theorem pw_icmp_ne {x y z : Int} {t : Nat} (hd : pv_dec M pc = some (.if_icmp .ne z, 3)) (ht : pv_tg pc z = some t) (hx : pv_r x) (hy : pv_r y) (kt : x ≠ y → pv_T K M t f st h Q) (kf : x = y → pv_T K M (pc + 3) f st h Q) : pv_T K M pc f (.int (pv_I y) :: .int (pv_I x) :: st) h Q := by
  by_cases hc : x ≠ y
  · exact pw_step hd rfl (by simp only [pv_sp, ht]; rw [if_pos (by simp only [pv_cb, decide_eq_true_eq]; exact (not_congr (pv_I_eq hx hy)).mpr hc)]) (kt hc)
  · exact pw_step hd rfl (by simp only [pv_sp, ht]; rw [if_neg (by simp only [pv_cb, decide_eq_true_eq]; exact fun q => hc ((not_congr (pv_I_eq hx hy)).mp q))]) (kf (by omega))
theorem pw_if_ne {x z : Int} {t : Nat} (hd : pv_dec M pc = some (.ifCond .ne z, 3)) (ht : pv_tg pc z = some t) (hx : pv_r x) (kt : x ≠ 0 → pv_T K M t f st h Q) (kf : x = 0 → pv_T K M (pc + 3) f st h Q) : pv_T K M pc f (.int (pv_I x) :: st) h Q := by
  have hy : pv_r 0 := ⟨by omega, by omega⟩
  by_cases hc : x ≠ 0
  · exact pw_step hd rfl (by simp only [pv_sp, ht]; rw [if_pos (by simp only [pv_cb, decide_eq_true_eq]; exact (not_congr (pv_I_eq hx hy)).mpr hc)]) (kt hc)
  · exact pw_step hd rfl (by simp only [pv_sp, ht]; rw [if_neg (by simp only [pv_cb, decide_eq_true_eq]; exact fun q => hc ((not_congr (pv_I_eq hx hy)).mp q))]) (kf (by omega))
theorem pw_icmp_lt {x y z : Int} {t : Nat} (hd : pv_dec M pc = some (.if_icmp .lt z, 3)) (ht : pv_tg pc z = some t) (hx : pv_r x) (hy : pv_r y) (kt : x < y → pv_T K M t f st h Q) (kf : y ≤ x → pv_T K M (pc + 3) f st h Q) : pv_T K M pc f (.int (pv_I y) :: .int (pv_I x) :: st) h Q := by
  by_cases hc : x < y
  · exact pw_step hd rfl (by simp only [pv_sp, ht]; rw [if_pos (by simp only [pv_cb, decide_eq_true_eq]; exact (pv_I_lt hx hy).mpr hc)]) (kt hc)
  · exact pw_step hd rfl (by simp only [pv_sp, ht]; rw [if_neg (by simp only [pv_cb, decide_eq_true_eq]; exact fun q => hc ((pv_I_lt hx hy).mp q))]) (kf (by omega))
theorem pw_if_lt {x z : Int} {t : Nat} (hd : pv_dec M pc = some (.ifCond .lt z, 3)) (ht : pv_tg pc z = some t) (hx : pv_r x) (kt : x < 0 → pv_T K M t f st h Q) (kf : 0 ≤ x → pv_T K M (pc + 3) f st h Q) : pv_T K M pc f (.int (pv_I x) :: st) h Q := by
  have hy : pv_r 0 := ⟨by omega, by omega⟩
  by_cases hc : x < 0
  · exact pw_step hd rfl (by simp only [pv_sp, ht]; rw [if_pos (by simp only [pv_cb, decide_eq_true_eq]; exact (pv_I_lt hx hy).mpr hc)]) (kt hc)
  · exact pw_step hd rfl (by simp only [pv_sp, ht]; rw [if_neg (by simp only [pv_cb, decide_eq_true_eq]; exact fun q => hc ((pv_I_lt hx hy).mp q))]) (kf (by omega))
theorem pw_icmp_ge {x y z : Int} {t : Nat} (hd : pv_dec M pc = some (.if_icmp .ge z, 3)) (ht : pv_tg pc z = some t) (hx : pv_r x) (hy : pv_r y) (kt : y ≤ x → pv_T K M t f st h Q) (kf : x < y → pv_T K M (pc + 3) f st h Q) : pv_T K M pc f (.int (pv_I y) :: .int (pv_I x) :: st) h Q := by
  by_cases hc : y ≤ x
  · exact pw_step hd rfl (by simp only [pv_sp, ht]; rw [if_pos (by simp only [pv_cb, decide_eq_true_eq]; exact (pv_I_le hy hx).mpr hc)]) (kt hc)
  · exact pw_step hd rfl (by simp only [pv_sp, ht]; rw [if_neg (by simp only [pv_cb, decide_eq_true_eq]; exact fun q => hc ((pv_I_le hy hx).mp q))]) (kf (by omega))
theorem pw_if_ge {x z : Int} {t : Nat} (hd : pv_dec M pc = some (.ifCond .ge z, 3)) (ht : pv_tg pc z = some t) (hx : pv_r x) (kt : 0 ≤ x → pv_T K M t f st h Q) (kf : x < 0 → pv_T K M (pc + 3) f st h Q) : pv_T K M pc f (.int (pv_I x) :: st) h Q := by
  have hy : pv_r 0 := ⟨by omega, by omega⟩
  by_cases hc : 0 ≤ x
  · exact pw_step hd rfl (by simp only [pv_sp, ht]; rw [if_pos (by simp only [pv_cb, decide_eq_true_eq]; exact (pv_I_le hy hx).mpr hc)]) (kt hc)
  · exact pw_step hd rfl (by simp only [pv_sp, ht]; rw [if_neg (by simp only [pv_cb, decide_eq_true_eq]; exact fun q => hc ((pv_I_le hy hx).mp q))]) (kf (by omega))
theorem pw_icmp_gt {x y z : Int} {t : Nat} (hd : pv_dec M pc = some (.if_icmp .gt z, 3)) (ht : pv_tg pc z = some t) (hx : pv_r x) (hy : pv_r y) (kt : y < x → pv_T K M t f st h Q) (kf : x ≤ y → pv_T K M (pc + 3) f st h Q) : pv_T K M pc f (.int (pv_I y) :: .int (pv_I x) :: st) h Q := by
  by_cases hc : y < x
  · exact pw_step hd rfl (by simp only [pv_sp, ht]; rw [if_pos (by simp only [pv_cb, decide_eq_true_eq]; exact (pv_I_lt hy hx).mpr hc)]) (kt hc)
  · exact pw_step hd rfl (by simp only [pv_sp, ht]; rw [if_neg (by simp only [pv_cb, decide_eq_true_eq]; exact fun q => hc ((pv_I_lt hy hx).mp q))]) (kf (by omega))
theorem pw_if_gt {x z : Int} {t : Nat} (hd : pv_dec M pc = some (.ifCond .gt z, 3)) (ht : pv_tg pc z = some t) (hx : pv_r x) (kt : 0 < x → pv_T K M t f st h Q) (kf : x ≤ 0 → pv_T K M (pc + 3) f st h Q) : pv_T K M pc f (.int (pv_I x) :: st) h Q := by
  have hy : pv_r 0 := ⟨by omega, by omega⟩
  by_cases hc : 0 < x
  · exact pw_step hd rfl (by simp only [pv_sp, ht]; rw [if_pos (by simp only [pv_cb, decide_eq_true_eq]; exact (pv_I_lt hy hx).mpr hc)]) (kt hc)
  · exact pw_step hd rfl (by simp only [pv_sp, ht]; rw [if_neg (by simp only [pv_cb, decide_eq_true_eq]; exact fun q => hc ((pv_I_lt hy hx).mp q))]) (kf (by omega))
theorem pw_icmp_le {x y z : Int} {t : Nat} (hd : pv_dec M pc = some (.if_icmp .le z, 3)) (ht : pv_tg pc z = some t) (hx : pv_r x) (hy : pv_r y) (kt : x ≤ y → pv_T K M t f st h Q) (kf : y < x → pv_T K M (pc + 3) f st h Q) : pv_T K M pc f (.int (pv_I y) :: .int (pv_I x) :: st) h Q := by
  by_cases hc : x ≤ y
  · exact pw_step hd rfl (by simp only [pv_sp, ht]; rw [if_pos (by simp only [pv_cb, decide_eq_true_eq]; exact (pv_I_le hx hy).mpr hc)]) (kt hc)
  · exact pw_step hd rfl (by simp only [pv_sp, ht]; rw [if_neg (by simp only [pv_cb, decide_eq_true_eq]; exact fun q => hc ((pv_I_le hx hy).mp q))]) (kf (by omega))
theorem pw_if_le {x z : Int} {t : Nat} (hd : pv_dec M pc = some (.ifCond .le z, 3)) (ht : pv_tg pc z = some t) (hx : pv_r x) (kt : x ≤ 0 → pv_T K M t f st h Q) (kf : 0 < x → pv_T K M (pc + 3) f st h Q) : pv_T K M pc f (.int (pv_I x) :: st) h Q := by
  have hy : pv_r 0 := ⟨by omega, by omega⟩
  by_cases hc : x ≤ 0
  · exact pw_step hd rfl (by simp only [pv_sp, ht]; rw [if_pos (by simp only [pv_cb, decide_eq_true_eq]; exact (pv_I_le hx hy).mpr hc)]) (kt hc)
  · exact pw_step hd rfl (by simp only [pv_sp, ht]; rw [if_neg (by simp only [pv_cb, decide_eq_true_eq]; exact fun q => hc ((pv_I_le hx hy).mp q))]) (kf (by omega))
theorem pw_tabOut {x d lo hi : Int} {os : Array Int} {len t : Nat} (hd : pv_dec M pc = some (.tableswitch d lo hi os, len)) (hx : pv_r x) (hc : x < lo ∨ hi < x) (ht : pv_tg pc d = some t) (k : pv_T K M t f st h Q) : pv_T K M pc f (.int (pv_I x) :: st) h Q := pw_step hd rfl (by simp only [pv_sp]; rw [if_pos (by rw [pv_I_toInt hx]; exact hc), ht]) k
theorem pw_tabIn {x d lo hi off : Int} {os : Array Int} {len t : Nat} (hd : pv_dec M pc = some (.tableswitch d lo hi os, len)) (hx : pv_r x) (hc : ¬ (x < lo ∨ hi < x)) (ho : os[(x - lo).toNat]? = some off) (ht : pv_tg pc off = some t) (k : pv_T K M t f st h Q) : pv_T K M pc f (.int (pv_I x) :: st) h Q := pw_step hd rfl (by simp only [pv_sp]; rw [if_neg (by rw [pv_I_toInt hx]; exact hc), pv_I_toInt hx, ho]; simp only [ht]) k
theorem pw_ireturn {v : Int32} (hd : pv_dec M pc = some (.ireturn, 1)) (hr : pv_rt M = some .int) (k : Q (some (.int v)) h) : pv_T K M pc f [.int v] h Q := pw_ret hd rfl rfl rfl (by simp only [pv_re]; rw [if_pos hr]) k
theorem pw_zreturn {x : Int} (hd : pv_dec M pc = some (.ireturn, 1)) (hr : pv_rt M = some .boolean) (hx : x = 0 ∨ x = 1) (k : Q (some (.int (pv_I x))) h) : pv_T K M pc f [.int (pv_I x)] h Q := pw_ret hd rfl rfl rfl (by
  simp only [pv_re]
  rw [if_neg (by rw [hr]; decide), if_pos ⟨hr, by rcases hx with rfl | rfl <;> rfl⟩]) k
theorem pw_lreturn {v : Int64} (hd : pv_dec M pc = some (.lreturn, 1)) (hr : pv_rt M = some .long) (k : Q (some (.long v)) h) : pv_T K M pc f [.long v] h Q := pw_ret hd rfl rfl rfl (by simp only [pv_re]; rw [if_pos hr]) k
theorem pw_return (hd : pv_dec M pc = some (.return_, 1)) (hr : pv_rt M = none) (k : Q none h) : pv_T K M pc f [] h Q := pw_ret hd rfl rfl rfl (by simp only [pv_re]; rw [if_pos hr]) k
theorem pw_ldc {idx : Nat} {v : Int32} (hd : pv_dec M pc = some (.ldc idx, 2)) (hk : pv_kc M idx = some v) (k : pv_T K M (pc + 2) f (.int v :: st) h Q) : pv_T K M pc f st h Q := pw_steph hd rfl rfl (by unfold pv_sh; dsimp only; rw [hk]) k
theorem pw_ldcS {idx q : Nat} (hd : pv_dec M pc = some (.ldc idx, 2)) (h0 : pv_kc M idx = none) (hk : pv_ks M idx = some q) (k : pv_T K M (pc + 2) f (.ref (K q) :: st) h Q) : pv_T K M pc f st h Q := pw_steph hd rfl rfl (by unfold pv_sh; dsimp only; rw [h0]; dsimp only; rw [hk]) k
theorem pw_ldcw {idx : Nat} {v : Int32} (hd : pv_dec M pc = some (.ldc_w idx, 3)) (hk : pv_kc M idx = some v) (k : pv_T K M (pc + 3) f (.int v :: st) h Q) : pv_T K M pc f st h Q := pw_steph hd rfl rfl (by unfold pv_sh; dsimp only; rw [hk]) k
theorem pw_ldc2 {idx : Nat} {v : Int64} (hd : pv_dec M pc = some (.ldc2_w idx, 3)) (hk : pv_kd M idx = some v) (k : pv_T K M (pc + 3) f (.long v :: st) h Q) : pv_T K M pc f st h Q := pw_steph hd rfl rfl (by unfold pv_sh; dsimp only; rw [hk]) k
end PW
end
section
/-! TYPES OF CELLS: an object: its class, its fields (1, lo, hi) an int, (2, ..) a long, (4, t, ..) a cell of type t; an array: its kind, length, (1 ints, 2 longs, 4 cells), the bounds of its ints by a period. -/
def pv_tyO : Nat → Option (Nat × List (Nat × Int × Int))
  | 0 => some (0, [(4, 1, 0), (4, 2, 0), (4, 2, 0), (4, 10, 0), (4, 11, 0), (4, 12, 0), (4, 4, 0), (4, 5, 0), (4, 6, 0)])
  | 1 => some (1, [(1, 0, 1600), (1, 0, 3), (1, -1, 1600), (4, 2, 0), (4, 30, 0), (1, 0, 1600), (1, 0, 1600), (1, 0, 4), (1, -2147483648, 2147483647), (1, 0, 1600), (1, 0, 1)])
  | 2 => some (2, [(1, 0, 10), (1, 0, 18), (1, -2147483648, 2147483647), (1, 0, 360), (1, 0, 360), (4, 20, 0), (4, 21, 0), (4, 22, 0), (4, 23, 0), (4, 24, 0), (4, 25, 0), (4, 26, 0), (4, 27, 0), (4, 28, 0), (1, 0, 99), (1, 0, 99)])
  | 3 => some (3, [(1, 0, 1), (1, 0, 3), (1, 0, 60), (4, 31, 0)])
  | 4 => some (4, [(4, 32, 0), (4, 33, 0)])
  | 5 => some (5, [(4, 34, 0), (4, 35, 0), (4, 36, 0), (1, 0, 10), (1, -2147483648, 2147483647), (1, -2147483648, 2147483647), (1, -2147483648, 2147483647), (1, -2147483648, 2147483647)])
  | 6 => some (6, [(4, 37, 0), (4, 38, 0), (4, 39, 0), (1, 0, 10)])
  | 7 => some (7, [(1, -2147483648, 2147483647), (4, 40, 0), (4, 41, 0), (4, 42, 0), (4, 43, 0), (1, 0, 1600), (4, 44, 0), (1, 0, 1600), (1, 0, 1600), (1, 0, 1600), (1, 0, 4), (1, 0, 99999), (1, 0, 3), (1, -1, 1600), (4, 45, 0), (4, 46, 0), (4, 47, 0), (4, 48, 0), (2, 0, 0), (4, 49, 0), (4, 50, 0), (1, 0, 10), (4, 51, 0), (4, 52, 0), (4, 53, 0), (4, 54, 0), (4, 55, 0), (4, 56, 0)])
  | _ => none
def pv_tyA : Nat → Option (Nat × Nat × Nat × List (Int × Int))
  | 10 => some (4, 3, 4, [(2, 0)])
  | 11 => some (3, 3, 1, [(0, 1)])
  | 12 => some (5, 4, 4, [(3, 0)])
  | 20 => some (0, 54, 1, [(0, 9)])
  | 21 => some (0, 18, 1, [(0, 540)])
  | 22 => some (0, 10, 1, [(-1, 3600)])
  | 23 => some (0, 10, 1, [(-1, 99)])
  | 24 => some (0, 10, 1, [(-1, 99)])
  | 25 => some (0, 10, 1, [(-1, 9999)])
  | 26 => some (0, 100, 1, [(0, 360)])
  | 27 => some (0, 100, 1, [(-2147483648, 2147483647)])
  | 28 => some (0, 1287, 1, [(0, 9), (0, 9), (-2147483648, 2147483647), (0, 17), (0, 9), (0, 9), (0, 9), (-2147483648, 2147483647), (0, 17), (0, 9), (0, 9), (0, 9), (-2147483648, 2147483647)])
  | 30 => some (2, 1600, 1, [(-128, 127)])
  | 31 => some (1, 60, 2, [(0, 0)])
  | 32 => some (0, 18, 1, [(-2147483648, 2147483647)])
  | 33 => some (0, 18, 1, [(0, 17)])
  | 34 => some (0, 10, 1, [(0, 9)])
  | 35 => some (0, 18, 1, [(-2147483648, 2147483647)])
  | 36 => some (0, 18, 1, [(-2147483648, 2147483647)])
  | 37 => some (1, 10, 2, [(0, 0)])
  | 38 => some (1, 110, 2, [(0, 0)])
  | 39 => some (0, 10, 1, [(0, 9)])
  | 40 => some (0, 1507, 1, [(-2147483648, 2147483647)])
  | 41 => some (0, 4521, 1, [(-2147483648, 2147483647)])
  | 42 => some (3, 3, 1, [(0, 1)])
  | 43 => some (2, 1600, 1, [(-128, 127)])
  | 44 => some (0, 5, 1, [(-2147483648, 2147483647)])
  | 45 => some (0, 1507, 1, [(-2147483648, 2147483647)])
  | 46 => some (0, 18, 1, [(-2147483648, 2147483647)])
  | 47 => some (0, 54, 1, [(-2147483648, 2147483647)])
  | 48 => some (0, 54, 1, [(-2147483648, 2147483647)])
  | 49 => some (1, 100, 2, [(0, 0)])
  | 50 => some (0, 10, 1, [(0, 9)])
  | 51 => some (1, 10, 2, [(0, 0)])
  | 52 => some (0, 1507, 1, [(-2147483648, 2147483647)])
  | 53 => some (0, 4, 1, [(-1, 60)])
  | 54 => some (0, 4, 1, [(0, 3)])
  | 55 => some (1, 240, 2, [(0, 0)])
  | 56 => some (1, 60, 2, [(0, 0)])
  | _ => none
def pv_okF (τ : Nat → Option Nat) (ρ : Nat → Nat → Nat) (a k : Nat) (ft : Nat × Int × Int) (v : Value) : Prop := match ft with
  | (1, lo, hi) => ∃ x : Int32, v = .int x ∧ lo ≤ x.toInt ∧ x.toInt ≤ hi
  | (2, _, _) => ∃ x : Int64, v = .long x
  | (4, t, _) => v = .ref (ρ a k) ∧ τ (ρ a k) = some t.toNat
  | _ => False
def pv_okO (τ : Nat → Option Nat) (ρ : Nat → Nat → Nat) (h : pv_H) (a ci : Nat) (fts : List (Nat × Int × Int)) : Prop := ∃ fs : List Value, h a = some (.inr (ci, fs)) ∧ fs.length = fts.length ∧ ∀ (k : Nat) (ft : Nat × Int × Int) (v : Value), fts[k]? = some ft → fs[k]? = some v → pv_okF τ ρ a k ft v
def pv_okA (τ : Nat → Option Nat) (ρ : Nat → Nat → Nat) (h : pv_H) (a kd n cd : Nat) (pat : List (Int × Int)) : Prop := match cd with
  | 1 => ∃ f : Nat → Int32, h a = some (.inl (kd, n, .inl f)) ∧ ∀ i : Nat, i < n → ∀ q, pat[i % pat.length]? = some q → q.1 ≤ (f i).toInt ∧ (f i).toInt ≤ q.2
  | 2 => ∃ f : Nat → Int64, h a = some (.inl (kd, n, .inr (.inl f)))
  | _ => ∃ f : Nat → Option Nat, h a = some (.inl (kd, n, .inr (.inr (.inr (.inr f))))) ∧ ∀ i : Nat, i < n → f i = some (ρ a i) ∧ ∀ q, pat[0]? = some q → τ (ρ a i) = some q.1.toNat
/-- the cells are of their types -/
def pv_Ty (τ : Nat → Option Nat) (ρ : Nat → Nat → Nat) (h : pv_H) : Prop := ∀ a t, τ a = some t → (∀ q, pv_tyO t = some q → pv_okO τ ρ h a q.1 q.2) ∧ ∀ q, pv_tyA t = some q → pv_okA τ ρ h a q.1 q.2.1 q.2.2.1 q.2.2.2
def pv_fI (h : pv_H) (a k : Nat) : Int := match h a with
  | some (.inr (_, fs)) => (match fs[k]? with
    | some (.int x) => x.toInt
    | _ => 0)
  | _ => 0
def pv_fJ (h : pv_H) (a k : Nat) : Int := match h a with
  | some (.inr (_, fs)) => (match fs[k]? with
    | some (.long x) => x.toInt
    | _ => 0)
  | _ => 0
def pv_aI (h : pv_H) (a i : Nat) : Int := match h a with
  | some (.inl (_, _, .inl f)) => (f i).toInt
  | _ => 0
def pv_aJ (h : pv_H) (a i : Nat) : Int := match h a with
  | some (.inl (_, _, .inr (.inl f))) => (f i).toInt
  | _ => 0
/-- what isn't named in E stays: t * 64 + k the field k of objects of type t, t * 64 + 63 arrays of type t -/
def pv_Fr (τ : Nat → Option Nat) (E : List Nat) (h h' : pv_H) : Prop := ∀ a t, τ a = some t → (∀ k, (t * 64 + k) ∉ E → pv_fI h' a k = pv_fI h a k ∧ pv_fJ h' a k = pv_fJ h a k) ∧ ((t * 64 + 63) ∉ E → ∀ i, pv_aI h' a i = pv_aI h a i ∧ pv_aJ h' a i = pv_aJ h a i)
theorem pv_Fr.rf {τ : Nat → Option Nat} {E : List Nat} {h : pv_H} : pv_Fr τ E h h := fun _ _ _ => ⟨fun _ _ => ⟨rfl, rfl⟩, fun _ _ => ⟨rfl, rfl⟩⟩
theorem pv_Fr.tr {τ : Nat → Option Nat} {E : List Nat} {h h1 h2 : pv_H} (a : pv_Fr τ E h h1) (b : pv_Fr τ E h1 h2) : pv_Fr τ E h h2 := fun q t ht => ⟨fun k hk => ⟨((b q t ht).1 k hk).1.trans ((a q t ht).1 k hk).1, ((b q t ht).1 k hk).2.trans ((a q t ht).1 k hk).2⟩, fun hk i => ⟨((b q t ht).2 hk i).1.trans ((a q t ht).2 hk i).1, ((b q t ht).2 hk i).2.trans ((a q t ht).2 hk i).2⟩⟩
theorem pv_Fr.up {τ : Nat → Option Nat} {E E' : List Nat} {h h1 : pv_H} (a : pv_Fr τ E h h1) (hE : E.all (fun q => E'.contains q) = true) : pv_Fr τ E' h h1 := fun q t ht => ⟨fun k hk => (a q t ht).1 k (fun z => hk (by
  have := List.all_eq_true.mp hE _ z
  simpa using this)), fun hk => (a q t ht).2 (fun z => hk (by
  have := List.all_eq_true.mp hE _ z
  simpa using this))⟩
/-- a field that may be written -/
def pv_ft (ci k : Nat) : Option FieldType := match pv_cls[ci]? with
  | some q => if (q.2.1 k).2.2.2 = false then parseFieldDescriptor (q.2.1 k).2.2.1 else none
  | none => none
def pv_kV (M idx M' ci np mL' : Nat) : Bool := match pv_ml M idx with
  | some (y, none) => decide (y ≠ pv_sln) && decide (y ≠ pv_scn) && decide (pv_ix y = some M') && decide (pv_np M' = np) && decide (pv_find (pv_own M') = some ci) && pv_okV M M' && decide (pv_mL M' = mL')
  | _ => false
def pv_kS (M idx M' np mL' : Nat) : Bool := match pv_ml M idx with
  | some (y, _) => decide (y ≠ pv_cpn) && decide (pv_ix y = some M') && decide (pv_np M' = np) && pv_okS M M' && decide (pv_mL M' = mL')
  | none => false
section PY
variable {K : Nat → Nat} {M pc : Nat} {f : pv_F} {st : List Value} {h : pv_H} {Q : Option Value → pv_H → Prop} {τ : Nat → Option Nat} {ρ : Nat → Nat → Nat}
theorem pv_set_fI {h : pv_H} {a : Nat} {e : pv_E} {b k : Nat} (hb : b ≠ a) : pv_fI (pv_set h a e) b k = pv_fI h b k ∧ pv_fJ (pv_set h a e) b k = pv_fJ h b k ∧ pv_aI (pv_set h a e) b k = pv_aI h b k ∧ pv_aJ (pv_set h a e) b k = pv_aJ h b k := by
  simp only [pv_fI, pv_fJ, pv_aI, pv_aJ, pv_set, if_neg hb, and_self]
theorem pv_set_self {h : pv_H} {a : Nat} {e : pv_E} : pv_set h a e a = some e := by simp [pv_set]
/-- an int field is read -/
theorem pw_getI {a k ci t idx : Nat} {lo hi : Int} {fts : List (Nat × Int × Int)} (hd : pv_dec M pc = some (.getfield idx, 3)) (hg : pv_gf M idx = some (ci, k)) (hT : pv_Ty τ ρ h) (ha : τ a = some t) (ht : pv_tyO t = some (ci, fts)) (hk : fts[k]? = some (1, lo, hi)) (kk : lo ≤ pv_fI h a k → pv_fI h a k ≤ hi → pv_T K M (pc + 3) f (.int (pv_I (pv_fI h a k)) :: st) h Q) : pv_T K M pc f (.ref a :: st) h Q := by
  obtain ⟨fs, e, hl, hf⟩ := (hT a t ha).1 _ ht
  have hkl : k < fs.length := by rw [hl]; exact (List.getElem?_eq_some_iff.mp hk).1
  obtain ⟨x, hx, h1, h2⟩ := hf k _ _ hk (List.getElem?_eq_getElem hkl)
  have e2 : fs[k]? = some (.int x) := by rw [List.getElem?_eq_getElem hkl, hx]
  have e3 : pv_fI h a k = x.toInt := by simp only [pv_fI, e, e2]
  have e4 : pv_I (pv_fI h a k) = x := by rw [e3]; exact Int32.ofInt_toInt x
  refine pw_steph hd rfl rfl ?_ (kk (by rw [e3]; exact h1) (by rw [e3]; exact h2))
  unfold pv_sh
  simp only [hg, e, if_true, e2, e4]
theorem pw_getJ {a k ci t idx : Nat} {fts : List (Nat × Int × Int)} (hd : pv_dec M pc = some (.getfield idx, 3)) (hg : pv_gf M idx = some (ci, k)) (hT : pv_Ty τ ρ h) (ha : τ a = some t) (ht : pv_tyO t = some (ci, fts)) (hk : fts[k]? = some (2, 0, 0)) (kk : pv_q (pv_fJ h a k) → pv_T K M (pc + 3) f (.long (pv_J (pv_fJ h a k)) :: st) h Q) : pv_T K M pc f (.ref a :: st) h Q := by
  obtain ⟨fs, e, hl, hf⟩ := (hT a t ha).1 _ ht
  have hkl : k < fs.length := by rw [hl]; exact (List.getElem?_eq_some_iff.mp hk).1
  obtain ⟨x, hx⟩ := hf k _ _ hk (List.getElem?_eq_getElem hkl)
  have e2 : fs[k]? = some (.long x) := by rw [List.getElem?_eq_getElem hkl, hx]
  have e3 : pv_fJ h a k = x.toInt := by simp only [pv_fJ, e, e2]
  have e4 : pv_J (pv_fJ h a k) = x := by rw [e3]; exact Int64.ofInt_toInt x
  refine pw_steph hd rfl rfl ?_ (kk (by rw [e3]; exact (pv_J_rep x).1))
  unfold pv_sh
  simp only [hg, e, if_true, e2, e4]
/-- a field that holds a cell is read -/
theorem pw_getR {a k ci t idx : Nat} {t' z : Int} {fts : List (Nat × Int × Int)} (hd : pv_dec M pc = some (.getfield idx, 3)) (hg : pv_gf M idx = some (ci, k)) (hT : pv_Ty τ ρ h) (ha : τ a = some t) (ht : pv_tyO t = some (ci, fts)) (hk : fts[k]? = some (4, t', z)) (kk : τ (ρ a k) = some t'.toNat → pv_T K M (pc + 3) f (.ref (ρ a k) :: st) h Q) : pv_T K M pc f (.ref a :: st) h Q := by
  obtain ⟨fs, e, hl, hf⟩ := (hT a t ha).1 _ ht
  have hkl : k < fs.length := by rw [hl]; exact (List.getElem?_eq_some_iff.mp hk).1
  obtain ⟨hx, h1⟩ := hf k _ _ hk (List.getElem?_eq_getElem hkl)
  have e2 : fs[k]? = some (.ref (ρ a k)) := by rw [List.getElem?_eq_getElem hkl, hx]
  refine pw_steph hd rfl rfl ?_ (kk h1)
  unfold pv_sh
  simp only [hg, e, if_true, e2]
theorem pv_Ty.putF {a k ci t : Nat} {ft : Nat × Int × Int} {v : Value} {fs : List Value} {fts : List (Nat × Int × Int)} (hT : pv_Ty τ ρ h) (ha : τ a = some t) (ht : pv_tyO t = some (ci, fts)) (hA : pv_tyA t = none) (hk : fts[k]? = some ft) (e : h a = some (.inr (ci, fs))) (hv : pv_okF τ ρ a k ft v) : pv_Ty τ ρ (pv_set h a (.inr (ci, fs.set k v))) := by
  intro b u hb
  by_cases hba : b = a
  · subst hba
    cases ha.symm.trans hb
    refine ⟨fun q hq => ?_, fun q hq => ?_⟩
    · cases ht.symm.trans hq
      obtain ⟨fs', e', hl, hf⟩ := (hT b t ha).1 _ ht
      cases e.symm.trans e'
      refine ⟨fs.set k v, pv_set_self, by rw [List.length_set]; exact hl, fun j ft' v' h1 h2 => ?_⟩
      by_cases hj : j = k
      · subst hj
        cases hk.symm.trans h1
        have hkl : j < fs.length := by rw [hl]; exact (List.getElem?_eq_some_iff.mp hk).1
        rw [List.getElem?_set_self hkl] at h2
        cases h2
        exact hv
      · rw [List.getElem?_set_ne (Ne.symm hj)] at h2
        exact hf j ft' v' h1 h2
    · rw [hA] at hq; cases hq
  · obtain ⟨h1, h2⟩ := hT b u hb
    refine ⟨fun q hq => ?_, fun q hq => ?_⟩
    · obtain ⟨fs', e', r⟩ := h1 q hq
      exact ⟨fs', by simp only [pv_set, if_neg hba]; exact e', r⟩
    · have := h2 q hq
      unfold pv_okA at this ⊢
      simp only [pv_set, if_neg hba]
      exact this
theorem pv_Fr.putF {a k ci t : Nat} {v : Value} {fs : List Value} (ha : τ a = some t) (e : h a = some (.inr (ci, fs))) : pv_Fr τ [t * 64 + k] h (pv_set h a (.inr (ci, fs.set k v))) := by
  intro b u hb
  by_cases hba : b = a
  · subst hba
    cases ha.symm.trans hb
    refine ⟨fun j hj => ?_, fun _ i => ?_⟩
    · have hjk : k ≠ j := fun z => hj (by rw [z]; exact List.mem_singleton.mpr rfl)
      simp only [pv_fI, pv_fJ, pv_set_self, e, List.getElem?_set_ne hjk, and_self]
    · simp only [pv_aI, pv_aJ, pv_set_self, e, and_self]
  · exact ⟨fun j _ => ⟨(pv_set_fI hba).1, (pv_set_fI hba).2.1⟩, fun _ i => ⟨(pv_set_fI hba).2.2.1, (pv_set_fI hba).2.2.2⟩⟩
theorem pv_sh_put {a k ci idx : Nat} {v : Value} {ty : FieldType} {fs : List Value} (hg : pv_gf M idx = some (ci, k)) (hty : pv_ft ci k = some ty) (e : h a = some (.inr (ci, fs))) (hn : narrow ty v = v) (hfit : fits ty v = true) (hkl : k < fs.length) (hrk : refKind ty = false) : pv_sh K M pc (.putfield idx) (v :: .ref a :: st) h = some (pc + 3, st, pv_set h a (.inr (ci, fs.set k v))) := by
  unfold pv_ft at hty
  split at hty
  · rename_i q hq
    split at hty
    · rename_i hfin
      unfold pv_sh
      simp only [hg, e, hq, hty, hfin, hn, hfit, hkl, hrk, and_self, if_true]
    · cases hty
  · cases hty
/-- an int field is written -/
theorem pw_putI {a k ci t idx : Nat} {x lo hi : Int} {fts : List (Nat × Int × Int)} (hd : pv_dec M pc = some (.putfield idx, 3)) (hg : pv_gf M idx = some (ci, k)) (hty : pv_ft ci k = some .int) (hT : pv_Ty τ ρ h) (ha : τ a = some t) (ht : pv_tyO t = some (ci, fts)) (hA : pv_tyA t = none) (hk : fts[k]? = some (1, lo, hi)) (hr : pv_r x) (hx : lo ≤ x ∧ x ≤ hi) (kk : ∀ h', pv_Ty τ ρ h' → pv_Fr τ [t * 64 + k] h h' → pv_fI h' a k = x → pv_T K M (pc + 3) f st h' Q) : pv_T K M pc f (.int (pv_I x) :: .ref a :: st) h Q := by
  obtain ⟨fs, e, hl, hf⟩ := (hT a t ha).1 _ ht
  have hkl : k < fs.length := by rw [hl]; exact (List.getElem?_eq_some_iff.mp hk).1
  refine pw_steph hd rfl rfl (pv_sh_put hg hty e rfl rfl hkl rfl) (kk _ (hT.putF ha ht hA hk e ⟨_, rfl, by rw [pv_I_toInt hr]; exact hx.1, by rw [pv_I_toInt hr]; exact hx.2⟩) (pv_Fr.putF ha e) ?_)
  simp only [pv_fI, pv_set_self, List.getElem?_set_self hkl, pv_I_toInt hr]
theorem pw_putZ {a k ci t idx : Nat} {x lo hi : Int} {fts : List (Nat × Int × Int)} (hd : pv_dec M pc = some (.putfield idx, 3)) (hg : pv_gf M idx = some (ci, k)) (hty : pv_ft ci k = some .boolean) (hT : pv_Ty τ ρ h) (ha : τ a = some t) (ht : pv_tyO t = some (ci, fts)) (hA : pv_tyA t = none) (hk : fts[k]? = some (1, lo, hi)) (hr : x = 0 ∨ x = 1) (hx : lo ≤ x ∧ x ≤ hi) (kk : ∀ h', pv_Ty τ ρ h' → pv_Fr τ [t * 64 + k] h h' → pv_fI h' a k = x → pv_T K M (pc + 3) f st h' Q) : pv_T K M pc f (.int (pv_I x) :: .ref a :: st) h Q := by
  obtain ⟨fs, e, hl, hf⟩ := (hT a t ha).1 _ ht
  have hkl : k < fs.length := by rw [hl]; exact (List.getElem?_eq_some_iff.mp hk).1
  have hr2 : pv_r x := by rcases hr with rfl | rfl <;> exact ⟨by omega, by omega⟩
  refine pw_steph hd rfl rfl (pv_sh_put hg hty e (by rcases hr with rfl | rfl <;> rfl) (by rcases hr with rfl | rfl <;> rfl) hkl rfl) (kk _ (hT.putF ha ht hA hk e ⟨_, rfl, by rw [pv_I_toInt hr2]; exact hx.1, by rw [pv_I_toInt hr2]; exact hx.2⟩) (pv_Fr.putF ha e) ?_)
  simp only [pv_fI, pv_set_self, List.getElem?_set_self hkl, pv_I_toInt hr2]
theorem pw_putJ {a k ci t idx : Nat} {x : Int} {fts : List (Nat × Int × Int)} (hd : pv_dec M pc = some (.putfield idx, 3)) (hg : pv_gf M idx = some (ci, k)) (hty : pv_ft ci k = some .long) (hT : pv_Ty τ ρ h) (ha : τ a = some t) (ht : pv_tyO t = some (ci, fts)) (hA : pv_tyA t = none) (hk : fts[k]? = some (2, 0, 0)) (hr : pv_q x) (kk : ∀ h', pv_Ty τ ρ h' → pv_Fr τ [t * 64 + k] h h' → pv_fJ h' a k = x → pv_T K M (pc + 3) f st h' Q) : pv_T K M pc f (.long (pv_J x) :: .ref a :: st) h Q := by
  obtain ⟨fs, e, hl, hf⟩ := (hT a t ha).1 _ ht
  have hkl : k < fs.length := by rw [hl]; exact (List.getElem?_eq_some_iff.mp hk).1
  refine pw_steph hd rfl rfl (pv_sh_put hg hty e rfl rfl hkl rfl) (kk _ (hT.putF ha ht hA hk e ⟨_, rfl⟩) (pv_Fr.putF ha e) ?_)
  simp only [pv_fJ, pv_set_self, List.getElem?_set_self hkl, pv_J_toInt hr]
/-- an int of an array is read; its bounds by the place in the period -/
theorem pw_ialdP {a t n : Nat} {i lo hi : Int} {pat : List (Int × Int)} (hd : pv_dec M pc = some (.iaload, 1)) (hT : pv_Ty τ ρ h) (ha : τ a = some t) (ht : pv_tyA t = some (0, n, 1, pat)) (hn : Nat.ble n 2147483647 = true) (h0 : 0 ≤ i) (hin : i < n) (hq : pat[i.toNat % pat.length]? = some (lo, hi)) (kk : lo ≤ pv_aI h a i.toNat → pv_aI h a i.toNat ≤ hi → pv_T K M (pc + 1) f (.int (pv_I (pv_aI h a i.toNat)) :: st) h Q) : pv_T K M pc f (.int (pv_I i) :: .ref a :: st) h Q := by
  obtain ⟨g, e, hf⟩ := (hT a t ha).2 _ ht
  have hn2 := Nat.le_of_ble_eq_true hn
  obtain ⟨h1, h2⟩ := hf i.toNat (show i.toNat < n by omega) _ hq
  have e3 : pv_aI h a i.toNat = (g i.toNat).toInt := by simp only [pv_aI, e]
  have e4 : pv_I (pv_aI h a i.toNat) = g i.toNat := by rw [e3]; exact Int32.ofInt_toInt _
  refine pw_steph hd rfl rfl ?_ (kk (by rw [e3]; exact h1) (by rw [e3]; exact h2))
  unfold pv_sh
  simp only [e, pv_in_I h0 hin (by omega), if_true, pv_I_nat h0 (by omega), e4]
theorem pw_iald {a t n : Nat} {i lo hi : Int} (hd : pv_dec M pc = some (.iaload, 1)) (hT : pv_Ty τ ρ h) (ha : τ a = some t) (ht : pv_tyA t = some (0, n, 1, [(lo, hi)])) (hn : Nat.ble n 2147483647 = true) (h0 : 0 ≤ i) (hin : i < n) (kk : lo ≤ pv_aI h a i.toNat → pv_aI h a i.toNat ≤ hi → pv_T K M (pc + 1) f (.int (pv_I (pv_aI h a i.toNat)) :: st) h Q) : pv_T K M pc f (.int (pv_I i) :: .ref a :: st) h Q := pw_ialdP hd hT ha ht hn h0 hin (by simp [Nat.mod_one]) kk
theorem pw_bald {a t n kd : Nat} {i lo hi : Int} (hd : pv_dec M pc = some (.baload, 1)) (hT : pv_Ty τ ρ h) (ha : τ a = some t) (ht : pv_tyA t = some (kd, n, 1, [(lo, hi)])) (hkd : kd = 2 ∨ kd = 3) (hn : Nat.ble n 2147483647 = true) (h0 : 0 ≤ i) (hin : i < n) (kk : lo ≤ pv_aI h a i.toNat → pv_aI h a i.toNat ≤ hi → pv_T K M (pc + 1) f (.int (pv_I (pv_aI h a i.toNat)) :: st) h Q) : pv_T K M pc f (.int (pv_I i) :: .ref a :: st) h Q := by
  obtain ⟨g, e, hf⟩ := (hT a t ha).2 _ ht
  have hn2 := Nat.le_of_ble_eq_true hn
  obtain ⟨h1, h2⟩ := hf i.toNat (show i.toNat < n by omega) (lo, hi) (by simp [Nat.mod_one])
  have e3 : pv_aI h a i.toNat = (g i.toNat).toInt := by simp only [pv_aI, e]
  have e4 : pv_I (pv_aI h a i.toNat) = g i.toNat := by rw [e3]; exact Int32.ofInt_toInt _
  refine pw_steph hd rfl rfl ?_ (kk (by rw [e3]; exact h1) (by rw [e3]; exact h2))
  unfold pv_sh
  rcases hkd with rfl | rfl
  · simp only [e, pv_in_I h0 hin (by omega), if_true, pv_I_nat h0 (by omega), e4]
  · simp only [e, pv_in_I h0 hin (by omega), if_true, pv_I_nat h0 (by omega), e4]
theorem pw_lald {a t n : Nat} {i : Int} {pat : List (Int × Int)} (hd : pv_dec M pc = some (.laload, 1)) (hT : pv_Ty τ ρ h) (ha : τ a = some t) (ht : pv_tyA t = some (1, n, 2, pat)) (hn : Nat.ble n 2147483647 = true) (h0 : 0 ≤ i) (hin : i < n) (kk : pv_q (pv_aJ h a i.toNat) → pv_T K M (pc + 1) f (.long (pv_J (pv_aJ h a i.toNat)) :: st) h Q) : pv_T K M pc f (.int (pv_I i) :: .ref a :: st) h Q := by
  obtain ⟨g, e⟩ := (hT a t ha).2 _ ht
  have hn2 := Nat.le_of_ble_eq_true hn
  have e3 : pv_aJ h a i.toNat = (g i.toNat).toInt := by simp only [pv_aJ, e]
  have e4 : pv_J (pv_aJ h a i.toNat) = g i.toNat := by rw [e3]; exact Int64.ofInt_toInt _
  refine pw_steph hd rfl rfl ?_ (kk (by rw [e3]; exact (pv_J_rep _).1))
  unfold pv_sh
  simp only [e, pv_in_I h0 hin (by omega), if_true, pv_I_nat h0 (by omega), e4]
theorem pw_aald {a t n kd : Nat} {i t' z : Int} (hd : pv_dec M pc = some (.aaload, 1)) (hT : pv_Ty τ ρ h) (ha : τ a = some t) (ht : pv_tyA t = some (kd, n, 4, [(t', z)])) (hkd : kd = 4 ∨ kd = 5) (hn : Nat.ble n 2147483647 = true) (h0 : 0 ≤ i) (hin : i < n) (kk : τ (ρ a i.toNat) = some t'.toNat → pv_T K M (pc + 1) f (.ref (ρ a i.toNat) :: st) h Q) : pv_T K M pc f (.int (pv_I i) :: .ref a :: st) h Q := by
  obtain ⟨g, e, hf⟩ := (hT a t ha).2 _ ht
  have hn2 := Nat.le_of_ble_eq_true hn
  obtain ⟨h1, h2⟩ := hf i.toNat (show i.toNat < n by omega)
  refine pw_steph hd rfl rfl ?_ (kk (h2 _ rfl))
  unfold pv_sh
  rcases hkd with rfl | rfl
  · simp only [e, pv_in_I h0 hin (by omega), if_true, pv_I_nat h0 (by omega), h1, va_rf]
  · simp only [e, pv_in_I h0 hin (by omega), if_true, pv_I_nat h0 (by omega), h1, va_rf]
theorem pv_Ty.setA {a t : Nat} {q : Nat × Nat × Nat × List (Int × Int)} {e : pv_E} (hT : pv_Ty τ ρ h) (ha : τ a = some t) (hO : pv_tyO t = none) (ht : pv_tyA t = some q) (hv : ∀ h', h' a = some e → pv_okA τ ρ h' a q.1 q.2.1 q.2.2.1 q.2.2.2) : pv_Ty τ ρ (pv_set h a e) := by
  intro b u hb
  by_cases hba : b = a
  · subst hba
    cases ha.symm.trans hb
    refine ⟨fun q hq => ?_, fun q' hq => ?_⟩
    · rw [hO] at hq; cases hq
    · cases ht.symm.trans hq
      exact hv _ pv_set_self
  · obtain ⟨h1, h2⟩ := hT b u hb
    refine ⟨fun q hq => ?_, fun q hq => ?_⟩
    · obtain ⟨fs', e', r⟩ := h1 q hq
      exact ⟨fs', by simp only [pv_set, if_neg hba]; exact e', r⟩
    · have := h2 q hq
      unfold pv_okA at this ⊢
      simp only [pv_set, if_neg hba]
      exact this
theorem pv_Fr.setA {a t kd n kd' n' : Nat} {x x' : (Nat → Int32) ⊕ (Nat → Int64) ⊕ (Nat → UInt32) ⊕ (Nat → UInt64) ⊕ (Nat → Option Nat)} (ha : τ a = some t) (e : h a = some (.inl (kd, n, x))) : pv_Fr τ [t * 64 + 63] h (pv_set h a (.inl (kd', n', x'))) := by
  intro b u hb
  by_cases hba : b = a
  · subst hba
    cases ha.symm.trans hb
    refine ⟨fun j hj => ?_, fun hz i => absurd (List.mem_singleton.mpr rfl) hz⟩
    simp only [pv_fI, pv_fJ, pv_set_self, e, and_self]
  · exact ⟨fun j _ => ⟨(pv_set_fI hba).1, (pv_set_fI hba).2.1⟩, fun _ i => ⟨(pv_set_fI hba).2.2.1, (pv_set_fI hba).2.2.2⟩⟩
/-- an int of an array is written -/
theorem pw_iastP {a t n : Nat} {i x : Int} {pat : List (Int × Int)} (hd : pv_dec M pc = some (.iastore, 1)) (hT : pv_Ty τ ρ h) (ha : τ a = some t) (ht : pv_tyA t = some (0, n, 1, pat)) (hO : pv_tyO t = none) (hn : Nat.ble n 2147483647 = true) (h0 : 0 ≤ i) (hin : i < n) (hr : pv_r x) (hq : ∀ q, pat[i.toNat % pat.length]? = some q → q.1 ≤ x ∧ x ≤ q.2) (kk : ∀ h', pv_Ty τ ρ h' → pv_Fr τ [t * 64 + 63] h h' → (∀ b j, pv_aI h' b j = if b = a ∧ j = i.toNat then x else pv_aI h b j) → pv_T K M (pc + 1) f st h' Q) : pv_T K M pc f (.int (pv_I x) :: .int (pv_I i) :: .ref a :: st) h Q := by
  obtain ⟨g, e, hf⟩ := (hT a t ha).2 _ ht
  have hn2 := Nat.le_of_ble_eq_true hn
  refine pw_steph hd rfl rfl ?_ (kk (pv_set h a (.inl (0, n, .inl (upd g i.toNat (pv_I x))))) (hT.setA ha hO ht (fun h' e' => ⟨_, e', fun j hj q hjq => ?_⟩)) (pv_Fr.setA ha e) (fun b j => ?_))
  · unfold pv_sh
    simp only [e, pv_in_I h0 hin (by omega), if_true, pv_I_nat h0 (by omega)]
  · by_cases hji : j = i.toNat
    · subst hji
      simp only [upd, if_true, pv_I_toInt hr]
      exact hq q hjq
    · simp only [upd, if_neg hji]
      exact hf j hj q hjq
  · by_cases hba : b = a
    · subst hba
      by_cases hji : j = i.toNat
      · simp only [pv_aI, pv_set_self, upd, hji, and_self, if_true, pv_I_toInt hr]
      · simp only [pv_aI, pv_set_self, upd, hji, and_false, if_false, e]
    · rw [(pv_set_fI hba).2.2.1, if_neg (fun z => hba z.1)]
theorem pw_iast {a t n : Nat} {i x lo hi : Int} (hd : pv_dec M pc = some (.iastore, 1)) (hT : pv_Ty τ ρ h) (ha : τ a = some t) (ht : pv_tyA t = some (0, n, 1, [(lo, hi)])) (hO : pv_tyO t = none) (hn : Nat.ble n 2147483647 = true) (h0 : 0 ≤ i) (hin : i < n) (hr : pv_r x) (hx : lo ≤ x ∧ x ≤ hi) (kk : ∀ h', pv_Ty τ ρ h' → pv_Fr τ [t * 64 + 63] h h' → (∀ b j, pv_aI h' b j = if b = a ∧ j = i.toNat then x else pv_aI h b j) → pv_T K M (pc + 1) f st h' Q) : pv_T K M pc f (.int (pv_I x) :: .int (pv_I i) :: .ref a :: st) h Q := pw_iastP hd hT ha ht hO hn h0 hin hr (fun q hq => by simp [Nat.mod_one] at hq; subst hq; exact hx) kk
theorem pw_last {a t n : Nat} {i x : Int} {pat : List (Int × Int)} (hd : pv_dec M pc = some (.lastore, 1)) (hT : pv_Ty τ ρ h) (ha : τ a = some t) (ht : pv_tyA t = some (1, n, 2, pat)) (hO : pv_tyO t = none) (hn : Nat.ble n 2147483647 = true) (h0 : 0 ≤ i) (hin : i < n) (hr : pv_q x) (kk : ∀ h', pv_Ty τ ρ h' → pv_Fr τ [t * 64 + 63] h h' → (∀ b j, pv_aJ h' b j = if b = a ∧ j = i.toNat then x else pv_aJ h b j) → pv_T K M (pc + 1) f st h' Q) : pv_T K M pc f (.long (pv_J x) :: .int (pv_I i) :: .ref a :: st) h Q := by
  obtain ⟨g, e⟩ := (hT a t ha).2 _ ht
  have hn2 := Nat.le_of_ble_eq_true hn
  refine pw_steph hd rfl rfl ?_ (kk (pv_set h a (.inl (1, n, .inr (.inl (vp_updL g i.toNat (pv_J x)))))) (hT.setA ha hO ht (fun h' e' => ⟨_, e'⟩)) (pv_Fr.setA ha e) (fun b j => ?_))
  · unfold pv_sh
    simp only [e, pv_in_I h0 hin (by omega), if_true, pv_I_nat h0 (by omega)]
  · by_cases hba : b = a
    · subst hba
      by_cases hji : j = i.toNat
      · simp only [pv_aJ, pv_set_self, vp_updL, hji, and_self, if_true, pv_J_toInt hr]
      · simp only [pv_aJ, pv_set_self, vp_updL, hji, and_false, if_false, e]
    · rw [(pv_set_fI hba).2.2.2, if_neg (fun z => hba z.1)]
theorem pv_nar_byte (x : Int32) : -128 ≤ (vp_nar .byte x).toInt ∧ (vp_nar .byte x).toInt ≤ 127 := by
  show -128 ≤ (x.toInt8.toInt32).toInt ∧ (x.toInt8.toInt32).toInt ≤ 127
  rw [Int8.toInt_toInt32]
  have h1 := Int8.le_toInt x.toInt8
  have h2 := Int8.toInt_lt x.toInt8
  omega
theorem pw_bastB {a t n : Nat} {i : Int} {x : Int32} (hd : pv_dec M pc = some (.bastore, 1)) (hT : pv_Ty τ ρ h) (ha : τ a = some t) (ht : pv_tyA t = some (2, n, 1, [(-128, 127)])) (hO : pv_tyO t = none) (hn : Nat.ble n 2147483647 = true) (h0 : 0 ≤ i) (hin : i < n) (kk : ∀ h', pv_Ty τ ρ h' → pv_Fr τ [t * 64 + 63] h h' → (∀ b j, pv_aI h' b j = if b = a ∧ j = i.toNat then (vp_nar .byte x).toInt else pv_aI h b j) → pv_T K M (pc + 1) f st h' Q) : pv_T K M pc f (.int x :: .int (pv_I i) :: .ref a :: st) h Q := by
  obtain ⟨g, e, hf⟩ := (hT a t ha).2 _ ht
  have hn2 := Nat.le_of_ble_eq_true hn
  refine pw_steph hd rfl rfl ?_ (kk (pv_set h a (.inl (2, n, .inl (upd g i.toNat (vp_nar .byte x))))) (hT.setA ha hO ht (fun h' e' => ⟨_, e', fun j hj q hjq => ?_⟩)) (pv_Fr.setA ha e) (fun b j => ?_))
  · unfold pv_sh
    simp only [e, pv_in_I h0 hin (by omega), if_true, pv_I_nat h0 (by omega)]
  · by_cases hji : j = i.toNat
    · subst hji
      simp only [upd, if_true]
      simp [Nat.mod_one] at hjq
      subst hjq
      exact pv_nar_byte x
    · simp only [upd, if_neg hji]
      exact hf j hj q hjq
  · by_cases hba : b = a
    · subst hba
      by_cases hji : j = i.toNat
      · simp only [pv_aI, pv_set_self, upd, hji, and_self, if_true]
      · simp only [pv_aI, pv_set_self, upd, hji, and_false, if_false, e]
    · rw [(pv_set_fI hba).2.2.1, if_neg (fun z => hba z.1)]
theorem pw_bastZ {a t n : Nat} {i x : Int} (hd : pv_dec M pc = some (.bastore, 1)) (hT : pv_Ty τ ρ h) (ha : τ a = some t) (ht : pv_tyA t = some (3, n, 1, [(0, 1)])) (hO : pv_tyO t = none) (hn : Nat.ble n 2147483647 = true) (h0 : 0 ≤ i) (hin : i < n) (hx : x = 0 ∨ x = 1) (kk : ∀ h', pv_Ty τ ρ h' → pv_Fr τ [t * 64 + 63] h h' → (∀ b j, pv_aI h' b j = if b = a ∧ j = i.toNat then x else pv_aI h b j) → pv_T K M (pc + 1) f st h' Q) : pv_T K M pc f (.int (pv_I x) :: .int (pv_I i) :: .ref a :: st) h Q := by
  obtain ⟨g, e, hf⟩ := (hT a t ha).2 _ ht
  have hn2 := Nat.le_of_ble_eq_true hn
  have hnx : (vp_nar .boolean (pv_I x)).toInt = x := by rcases hx with rfl | rfl <;> rfl
  refine pw_steph hd rfl rfl ?_ (kk (pv_set h a (.inl (3, n, .inl (upd g i.toNat (vp_nar .boolean (pv_I x)))))) (hT.setA ha hO ht (fun h' e' => ⟨_, e', fun j hj q hjq => ?_⟩)) (pv_Fr.setA ha e) (fun b j => ?_))
  · unfold pv_sh
    simp only [e, pv_in_I h0 hin (by omega), if_true, pv_I_nat h0 (by omega)]
  · by_cases hji : j = i.toNat
    · subst hji
      simp only [upd, if_true]
      simp [Nat.mod_one] at hjq
      subst hjq
      rw [hnx]
      omega
    · simp only [upd, if_neg hji]
      exact hf j hj q hjq
  · by_cases hba : b = a
    · subst hba
      by_cases hji : j = i.toNat
      · simp only [pv_aI, pv_set_self, upd, hji, and_self, if_true, hnx]
      · simp only [pv_aI, pv_set_self, upd, hji, and_false, if_false, e]
    · rw [(pv_set_fI hba).2.2.1, if_neg (fun z => hba z.1)]
theorem pw_alen {a t n kd cd : Nat} {pat : List (Int × Int)} (hd : pv_dec M pc = some (.arraylength, 1)) (hT : pv_Ty τ ρ h) (ha : τ a = some t) (ht : pv_tyA t = some (kd, n, cd, pat)) (hkd : (kd = 0 ∧ cd = 1) ∨ (kd = 1 ∧ cd = 2)) (kk : pv_T K M (pc + 1) f (.int (pv_I n) :: st) h Q) : pv_T K M pc f (.ref a :: st) h Q := by
  have h1 := (hT a t ha).2 _ ht
  have e5 : Int32.ofNat n = pv_I (n : Int) := (Int32.ofInt_eq_ofNat).symm
  rcases hkd with ⟨rfl, rfl⟩ | ⟨rfl, rfl⟩
  · obtain ⟨g, e, -⟩ := h1
    refine pw_steph hd rfl rfl ?_ kk
    unfold pv_sh
    simp only [e, e5]
  · obtain ⟨g, e⟩ := h1
    refine pw_steph hd rfl rfl ?_ kk
    unfold pv_sh
    simp only [e, e5]
theorem pw_callVa {M' ci np mL' t b : Nat} {fts : List (Nat × Int × Int)} {as : List Value} {Q' : Option Value → pv_H → Prop} {idx : Nat} (hd : pv_dec M pc = some (.invokevirtual idx, 3)) (hk : pv_kV M idx M' ci np mL' = true) (hT : pv_Ty τ ρ h) (hb : τ b = some t) (ht : pv_tyO t = some (ci, fts)) (hn : as.length = np) (hr : Nat.ble (st.map fun v => v.category).sum 8 = true) (hsl : Nat.ble (lg_sl (.ref b :: as)).length mL' = true) (hc : pv_C K M' (.ref b :: as) h Q') (kk : ∀ z h', Q' z h' → pv_T K M (pc + 3) f (z.toList ++ st) h' Q) : pv_T K M pc f (as.reverse ++ .ref b :: st) h Q := by
  obtain ⟨fs, e, -⟩ := (hT b t hb).1 _ ht
  unfold pv_kV at hk
  split at hk
  · rename_i y hy
    simp only [Bool.and_eq_true, decide_eq_true_eq] at hk
    obtain ⟨⟨⟨⟨⟨⟨k1, k2⟩, k3⟩, k4⟩, k5⟩, k6⟩, k7⟩ := hk
    refine pw_call hd rfl rfl ?_ rfl ?_ hc kk
    · unfold pv_sh
      simp only [hy, k1, k2, if_false]
    · have hnp : as.reverse.length = pv_np M' := by rw [List.length_reverse, hn, k4]
      have e1 : (as.reverse ++ .ref b :: st).drop (pv_np M') = .ref b :: st := by rw [← hnp, List.drop_left]
      have e2 : (as.reverse ++ .ref b :: st).take (pv_np M') = as.reverse := by rw [← hnp, List.take_left]
      unfold pv_cs
      simp only [hy, k3, e1, e2, e, List.reverse_reverse]
      rw [if_pos ⟨k5, k6, Nat.le_of_ble_eq_true hr, hnp, by rw [k7]; exact Nat.le_of_ble_eq_true hsl⟩]
  · cases hk
theorem pw_callSa {M' np mL' : Nat} {as : List Value} {Q' : Option Value → pv_H → Prop} {idx : Nat} (hd : pv_dec M pc = some (.invokestatic idx, 3)) (hk : pv_kS M idx M' np mL' = true) (hn : as.length = np) (hr : Nat.ble (st.map fun v => v.category).sum 8 = true) (hsl : Nat.ble (lg_sl as).length mL' = true) (hc : pv_C K M' as h Q') (kk : ∀ z h', Q' z h' → pv_T K M (pc + 3) f (z.toList ++ st) h' Q) : pv_T K M pc f (as.reverse ++ st) h Q := by
  unfold pv_kS at hk
  split at hk
  · rename_i y o hy
    simp only [Bool.and_eq_true, decide_eq_true_eq] at hk
    obtain ⟨⟨⟨⟨k1, k3⟩, k4⟩, k6⟩, k7⟩ := hk
    refine pw_call hd rfl rfl ?_ rfl ?_ hc kk
    · unfold pv_sh
      cases o with
      | none => simp only [hy, k1, false_and, if_false]
      | some z => simp only [hy]
    · have hnp : as.reverse.length = pv_np M' := by rw [List.length_reverse, hn, k4]
      have e1 : (as.reverse ++ st).drop (pv_np M') = st := by rw [← hnp, List.drop_left]
      have e2 : (as.reverse ++ st).take (pv_np M') = as.reverse := by rw [← hnp, List.take_left]
      unfold pv_cs
      simp only [hy, k3, e1, e2, List.reverse_reverse]
      rw [if_pos ⟨k6, Nat.le_of_ble_eq_true hr, hnp, by rw [k7]; exact Nat.le_of_ble_eq_true hsl⟩]
  · cases hk
theorem pw_callV0 {M' ci mL' t b : Nat} {fts : List (Nat × Int × Int)} {Q' : Option Value → pv_H → Prop} {idx : Nat} (hd : pv_dec M pc = some (.invokevirtual idx, 3)) (hk : pv_kV M idx M' ci 0 mL' = true) (hT : pv_Ty τ ρ h) (hb : τ b = some t) (ht : pv_tyO t = some (ci, fts)) (hr : Nat.ble (st.map fun v => v.category).sum 8 = true) (hsl : Nat.ble (lg_sl ([.ref b] : List Value)).length mL' = true) (hc : pv_C K M' [.ref b] h Q') (kk : ∀ z h', Q' z h' → pv_T K M (pc + 3) f (z.toList ++ st) h' Q) : pv_T K M pc f (.ref b :: st) h Q := pw_callVa (as := []) hd hk hT hb ht rfl hr hsl hc kk
theorem pw_callV1 {M' ci mL' t b : Nat} {fts : List (Nat × Int × Int)} {v1 : Value} {Q' : Option Value → pv_H → Prop} {idx : Nat} (hd : pv_dec M pc = some (.invokevirtual idx, 3)) (hk : pv_kV M idx M' ci 1 mL' = true) (hT : pv_Ty τ ρ h) (hb : τ b = some t) (ht : pv_tyO t = some (ci, fts)) (hr : Nat.ble (st.map fun v => v.category).sum 8 = true) (hsl : Nat.ble (lg_sl ([.ref b, v1] : List Value)).length mL' = true) (hc : pv_C K M' [.ref b, v1] h Q') (kk : ∀ z h', Q' z h' → pv_T K M (pc + 3) f (z.toList ++ st) h' Q) : pv_T K M pc f (v1 :: .ref b :: st) h Q := pw_callVa (as := [v1]) hd hk hT hb ht rfl hr hsl hc kk
theorem pw_callS1 {M' mL' : Nat} {v1 : Value} {Q' : Option Value → pv_H → Prop} {idx : Nat} (hd : pv_dec M pc = some (.invokestatic idx, 3)) (hk : pv_kS M idx M' 1 mL' = true) (hr : Nat.ble (st.map fun v => v.category).sum 8 = true) (hsl : Nat.ble (lg_sl ([v1] : List Value)).length mL' = true) (hc : pv_C K M' [v1] h Q') (kk : ∀ z h', Q' z h' → pv_T K M (pc + 3) f (z.toList ++ st) h' Q) : pv_T K M pc f (v1 :: st) h Q := pw_callSa (as := [v1]) hd hk rfl hr hsl hc kk
theorem pw_callV2 {M' ci mL' t b : Nat} {fts : List (Nat × Int × Int)} {v1 v2 : Value} {Q' : Option Value → pv_H → Prop} {idx : Nat} (hd : pv_dec M pc = some (.invokevirtual idx, 3)) (hk : pv_kV M idx M' ci 2 mL' = true) (hT : pv_Ty τ ρ h) (hb : τ b = some t) (ht : pv_tyO t = some (ci, fts)) (hr : Nat.ble (st.map fun v => v.category).sum 8 = true) (hsl : Nat.ble (lg_sl ([.ref b, v1, v2] : List Value)).length mL' = true) (hc : pv_C K M' [.ref b, v1, v2] h Q') (kk : ∀ z h', Q' z h' → pv_T K M (pc + 3) f (z.toList ++ st) h' Q) : pv_T K M pc f (v2 :: v1 :: .ref b :: st) h Q := pw_callVa (as := [v1, v2]) hd hk hT hb ht rfl hr hsl hc kk
theorem pw_callS2 {M' mL' : Nat} {v1 v2 : Value} {Q' : Option Value → pv_H → Prop} {idx : Nat} (hd : pv_dec M pc = some (.invokestatic idx, 3)) (hk : pv_kS M idx M' 2 mL' = true) (hr : Nat.ble (st.map fun v => v.category).sum 8 = true) (hsl : Nat.ble (lg_sl ([v1, v2] : List Value)).length mL' = true) (hc : pv_C K M' [v1, v2] h Q') (kk : ∀ z h', Q' z h' → pv_T K M (pc + 3) f (z.toList ++ st) h' Q) : pv_T K M pc f (v2 :: v1 :: st) h Q := pw_callSa (as := [v1, v2]) hd hk rfl hr hsl hc kk
theorem pw_callV3 {M' ci mL' t b : Nat} {fts : List (Nat × Int × Int)} {v1 v2 v3 : Value} {Q' : Option Value → pv_H → Prop} {idx : Nat} (hd : pv_dec M pc = some (.invokevirtual idx, 3)) (hk : pv_kV M idx M' ci 3 mL' = true) (hT : pv_Ty τ ρ h) (hb : τ b = some t) (ht : pv_tyO t = some (ci, fts)) (hr : Nat.ble (st.map fun v => v.category).sum 8 = true) (hsl : Nat.ble (lg_sl ([.ref b, v1, v2, v3] : List Value)).length mL' = true) (hc : pv_C K M' [.ref b, v1, v2, v3] h Q') (kk : ∀ z h', Q' z h' → pv_T K M (pc + 3) f (z.toList ++ st) h' Q) : pv_T K M pc f (v3 :: v2 :: v1 :: .ref b :: st) h Q := pw_callVa (as := [v1, v2, v3]) hd hk hT hb ht rfl hr hsl hc kk
theorem pw_callS3 {M' mL' : Nat} {v1 v2 v3 : Value} {Q' : Option Value → pv_H → Prop} {idx : Nat} (hd : pv_dec M pc = some (.invokestatic idx, 3)) (hk : pv_kS M idx M' 3 mL' = true) (hr : Nat.ble (st.map fun v => v.category).sum 8 = true) (hsl : Nat.ble (lg_sl ([v1, v2, v3] : List Value)).length mL' = true) (hc : pv_C K M' [v1, v2, v3] h Q') (kk : ∀ z h', Q' z h' → pv_T K M (pc + 3) f (z.toList ++ st) h' Q) : pv_T K M pc f (v3 :: v2 :: v1 :: st) h Q := pw_callSa (as := [v1, v2, v3]) hd hk rfl hr hsl hc kk
theorem pw_callV4 {M' ci mL' t b : Nat} {fts : List (Nat × Int × Int)} {v1 v2 v3 v4 : Value} {Q' : Option Value → pv_H → Prop} {idx : Nat} (hd : pv_dec M pc = some (.invokevirtual idx, 3)) (hk : pv_kV M idx M' ci 4 mL' = true) (hT : pv_Ty τ ρ h) (hb : τ b = some t) (ht : pv_tyO t = some (ci, fts)) (hr : Nat.ble (st.map fun v => v.category).sum 8 = true) (hsl : Nat.ble (lg_sl ([.ref b, v1, v2, v3, v4] : List Value)).length mL' = true) (hc : pv_C K M' [.ref b, v1, v2, v3, v4] h Q') (kk : ∀ z h', Q' z h' → pv_T K M (pc + 3) f (z.toList ++ st) h' Q) : pv_T K M pc f (v4 :: v3 :: v2 :: v1 :: .ref b :: st) h Q := pw_callVa (as := [v1, v2, v3, v4]) hd hk hT hb ht rfl hr hsl hc kk
theorem pw_callS4 {M' mL' : Nat} {v1 v2 v3 v4 : Value} {Q' : Option Value → pv_H → Prop} {idx : Nat} (hd : pv_dec M pc = some (.invokestatic idx, 3)) (hk : pv_kS M idx M' 4 mL' = true) (hr : Nat.ble (st.map fun v => v.category).sum 8 = true) (hsl : Nat.ble (lg_sl ([v1, v2, v3, v4] : List Value)).length mL' = true) (hc : pv_C K M' [v1, v2, v3, v4] h Q') (kk : ∀ z h', Q' z h' → pv_T K M (pc + 3) f (z.toList ++ st) h' Q) : pv_T K M pc f (v4 :: v3 :: v2 :: v1 :: st) h Q := pw_callSa (as := [v1, v2, v3, v4]) hd hk rfl hr hsl hc kk
theorem pw_callV5 {M' ci mL' t b : Nat} {fts : List (Nat × Int × Int)} {v1 v2 v3 v4 v5 : Value} {Q' : Option Value → pv_H → Prop} {idx : Nat} (hd : pv_dec M pc = some (.invokevirtual idx, 3)) (hk : pv_kV M idx M' ci 5 mL' = true) (hT : pv_Ty τ ρ h) (hb : τ b = some t) (ht : pv_tyO t = some (ci, fts)) (hr : Nat.ble (st.map fun v => v.category).sum 8 = true) (hsl : Nat.ble (lg_sl ([.ref b, v1, v2, v3, v4, v5] : List Value)).length mL' = true) (hc : pv_C K M' [.ref b, v1, v2, v3, v4, v5] h Q') (kk : ∀ z h', Q' z h' → pv_T K M (pc + 3) f (z.toList ++ st) h' Q) : pv_T K M pc f (v5 :: v4 :: v3 :: v2 :: v1 :: .ref b :: st) h Q := pw_callVa (as := [v1, v2, v3, v4, v5]) hd hk hT hb ht rfl hr hsl hc kk
theorem pw_callS5 {M' mL' : Nat} {v1 v2 v3 v4 v5 : Value} {Q' : Option Value → pv_H → Prop} {idx : Nat} (hd : pv_dec M pc = some (.invokestatic idx, 3)) (hk : pv_kS M idx M' 5 mL' = true) (hr : Nat.ble (st.map fun v => v.category).sum 8 = true) (hsl : Nat.ble (lg_sl ([v1, v2, v3, v4, v5] : List Value)).length mL' = true) (hc : pv_C K M' [v1, v2, v3, v4, v5] h Q') (kk : ∀ z h', Q' z h' → pv_T K M (pc + 3) f (z.toList ++ st) h' Q) : pv_T K M pc f (v5 :: v4 :: v3 :: v2 :: v1 :: st) h Q := pw_callSa (as := [v1, v2, v3, v4, v5]) hd hk rfl hr hsl hc kk
end PY
end
