section
-- ===== PART A: goes FIRST, ahead of the names: the tables' words, and 'selects' of the private methods out of them =====
/-- a private method of a class that the tables say can be made, by its rows of tables_1 -/
def lw_okq (q : MethodName × Nat) : Prop := (q.1.cls ≠ "java/lang/invoke/MethodHandle" ∧ q.1.cls ≠ "java/lang/invoke/VarHandle") ∧ Cond.instantiable q.1.cls q.2 ∈ tables_1 ∧ Cond.privateMethod q.1 ∈ tables_1 ∧ Cond.instanceMethod q.1 ∈ tables_1
theorem lw_p0 : lw_okq (⟨"RiverModel$Text", "readItem", "()Z"⟩, 4) := ⟨⟨by decide +kernel, by decide +kernel⟩, List.mem_of_getElem? (i := 24) (by decide +kernel), List.mem_of_getElem? (i := 324) (by decide +kernel), List.mem_of_getElem? (i := 325) (by decide +kernel)⟩
theorem lw_p1 : lw_okq (⟨"RiverModel$Text", "nextByte", "()I"⟩, 4) := ⟨⟨by decide +kernel, by decide +kernel⟩, List.mem_of_getElem? (i := 24) (by decide +kernel), List.mem_of_getElem? (i := 329) (by decide +kernel), List.mem_of_getElem? (i := 330) (by decide +kernel)⟩
theorem lw_p2 : lw_okq (⟨"RiverModel$Text", "readName", "(I)Z"⟩, 4) := ⟨⟨by decide +kernel, by decide +kernel⟩, List.mem_of_getElem? (i := 24) (by decide +kernel), List.mem_of_getElem? (i := 336) (by decide +kernel), List.mem_of_getElem? (i := 337) (by decide +kernel)⟩
theorem lw_p3 : lw_okq (⟨"RiverModel$Text", "readNumber", "(I)Z"⟩, 4) := ⟨⟨by decide +kernel, by decide +kernel⟩, List.mem_of_getElem? (i := 24) (by decide +kernel), List.mem_of_getElem? (i := 346) (by decide +kernel), List.mem_of_getElem? (i := 347) (by decide +kernel)⟩
theorem lw_p4 : lw_okq (⟨"RiverModel$Text", "isAtFigure", "()Z"⟩, 4) := ⟨⟨by decide +kernel, by decide +kernel⟩, List.mem_of_getElem? (i := 24) (by decide +kernel), List.mem_of_getElem? (i := 350) (by decide +kernel), List.mem_of_getElem? (i := 351) (by decide +kernel)⟩
theorem lw_p5 : lw_okq (⟨"RiverModel$Model", "areNamesAhead", "([II)Z"⟩, 6) := ⟨⟨by decide +kernel, by decide +kernel⟩, List.mem_of_getElem? (i := 46) (by decide +kernel), List.mem_of_getElem? (i := 373) (by decide +kernel), List.mem_of_getElem? (i := 374) (by decide +kernel)⟩
theorem lw_p6 : lw_okq (⟨"RiverModel$Model", "isStoreAhead", "(II)Z"⟩, 6) := ⟨⟨by decide +kernel, by decide +kernel⟩, List.mem_of_getElem? (i := 46) (by decide +kernel), List.mem_of_getElem? (i := 377) (by decide +kernel), List.mem_of_getElem? (i := 378) (by decide +kernel)⟩
theorem lw_p7 : lw_okq (⟨"RiverModel", "draftBecomesModel", "()V"⟩, 18) := ⟨⟨by decide +kernel, by decide +kernel⟩, List.mem_of_getElem? (i := 16) (by decide +kernel), List.mem_of_getElem? (i := 411) (by decide +kernel), List.mem_of_getElem? (i := 412) (by decide +kernel)⟩
theorem lw_p8 : lw_okq (⟨"RiverModel", "lacksItem", "(I)Z"⟩, 18) := ⟨⟨by decide +kernel, by decide +kernel⟩, List.mem_of_getElem? (i := 16) (by decide +kernel), List.mem_of_getElem? (i := 437) (by decide +kernel), List.mem_of_getElem? (i := 438) (by decide +kernel)⟩
theorem lw_p9 : lw_okq (⟨"RiverModel$Course", "bringDue", "()V"⟩, 8) := ⟨⟨by decide +kernel, by decide +kernel⟩, List.mem_of_getElem? (i := 93) (by decide +kernel), List.mem_of_getElem? (i := 471) (by decide +kernel), List.mem_of_getElem? (i := 472) (by decide +kernel)⟩
theorem lw_p10 : lw_okq (⟨"RiverModel$Course", "amountOf", "(LRiverModel$Model;III)J"⟩, 8) := ⟨⟨by decide +kernel, by decide +kernel⟩, List.mem_of_getElem? (i := 93) (by decide +kernel), List.mem_of_getElem? (i := 475) (by decide +kernel), List.mem_of_getElem? (i := 476) (by decide +kernel)⟩
theorem lw_p11 : lw_okq (⟨"RiverModel$Course", "openingOf", "(I)J"⟩, 8) := ⟨⟨by decide +kernel, by decide +kernel⟩, List.mem_of_getElem? (i := 93) (by decide +kernel), List.mem_of_getElem? (i := 498) (by decide +kernel), List.mem_of_getElem? (i := 499) (by decide +kernel)⟩
theorem lw_p12 : lw_okq (⟨"RiverModel$Course", "move", "(LRiverModel$Model;IJ)V"⟩, 8) := ⟨⟨by decide +kernel, by decide +kernel⟩, List.mem_of_getElem? (i := 93) (by decide +kernel), List.mem_of_getElem? (i := 507) (by decide +kernel), List.mem_of_getElem? (i := 508) (by decide +kernel)⟩
theorem lw_p13 : lw_okq (⟨"RiverModel$Course", "send", "(IIJ)V"⟩, 8) := ⟨⟨by decide +kernel, by decide +kernel⟩, List.mem_of_getElem? (i := 93) (by decide +kernel), List.mem_of_getElem? (i := 511) (by decide +kernel), List.mem_of_getElem? (i := 512) (by decide +kernel)⟩
theorem lw_p14 : lw_okq (⟨"RiverModel", "lacksStore", "(I)Z"⟩, 18) := ⟨⟨by decide +kernel, by decide +kernel⟩, List.mem_of_getElem? (i := 16) (by decide +kernel), List.mem_of_getElem? (i := 522) (by decide +kernel), List.mem_of_getElem? (i := 523) (by decide +kernel)⟩
theorem lw_p15 : lw_okq (⟨"RiverModel", "lacksGate", "(I)Z"⟩, 18) := ⟨⟨by decide +kernel, by decide +kernel⟩, List.mem_of_getElem? (i := 16) (by decide +kernel), List.mem_of_getElem? (i := 541) (by decide +kernel), List.mem_of_getElem? (i := 542) (by decide +kernel)⟩
def lw_privs_1 : List (MethodName × Nat) := [(⟨"RiverModel$Text", "readItem", "()Z"⟩, 4), (⟨"RiverModel$Text", "nextByte", "()I"⟩, 4), (⟨"RiverModel$Text", "readName", "(I)Z"⟩, 4), (⟨"RiverModel$Text", "readNumber", "(I)Z"⟩, 4), (⟨"RiverModel$Text", "isAtFigure", "()Z"⟩, 4), (⟨"RiverModel$Model", "areNamesAhead", "([II)Z"⟩, 6), (⟨"RiverModel$Model", "isStoreAhead", "(II)Z"⟩, 6), (⟨"RiverModel", "draftBecomesModel", "()V"⟩, 18), (⟨"RiverModel", "lacksItem", "(I)Z"⟩, 18), (⟨"RiverModel$Course", "bringDue", "()V"⟩, 8), (⟨"RiverModel$Course", "amountOf", "(LRiverModel$Model;III)J"⟩, 8), (⟨"RiverModel$Course", "openingOf", "(I)J"⟩, 8), (⟨"RiverModel$Course", "move", "(LRiverModel$Model;IJ)V"⟩, 8), (⟨"RiverModel$Course", "send", "(IIJ)V"⟩, 8), (⟨"RiverModel", "lacksStore", "(I)Z"⟩, 18), (⟨"RiverModel", "lacksGate", "(I)Z"⟩, 18)]
theorem lw_r1 : ∀ q ∈ lw_privs_1, lw_okq q := List.forall_mem_cons.mpr ⟨lw_p0, List.forall_mem_cons.mpr ⟨lw_p1, List.forall_mem_cons.mpr ⟨lw_p2, List.forall_mem_cons.mpr ⟨lw_p3, List.forall_mem_cons.mpr ⟨lw_p4, List.forall_mem_cons.mpr ⟨lw_p5, List.forall_mem_cons.mpr ⟨lw_p6, List.forall_mem_cons.mpr ⟨lw_p7, List.forall_mem_cons.mpr ⟨lw_p8, List.forall_mem_cons.mpr ⟨lw_p9, List.forall_mem_cons.mpr ⟨lw_p10, List.forall_mem_cons.mpr ⟨lw_p11, List.forall_mem_cons.mpr ⟨lw_p12, List.forall_mem_cons.mpr ⟨lw_p13, List.forall_mem_cons.mpr ⟨lw_p14, List.forall_mem_cons.mpr ⟨lw_p15, fun _ h => absurd h List.not_mem_nil⟩⟩⟩⟩⟩⟩⟩⟩⟩⟩⟩⟩⟩⟩⟩⟩
theorem lw_p16 : lw_okq (⟨"RiverModel", "lacksGauge", "(I)Z"⟩, 18) := ⟨⟨by decide +kernel, by decide +kernel⟩, List.mem_of_getElem? (i := 16) (by decide +kernel), List.mem_of_getElem? (i := 578) (by decide +kernel), List.mem_of_getElem? (i := 579) (by decide +kernel)⟩
theorem lw_p17 : lw_okq (⟨"RiverModel$Knobs", "pointsOf", "(I)I"⟩, 5) := ⟨⟨by decide +kernel, by decide +kernel⟩, List.mem_of_getElem? (i := 159) (by decide +kernel), List.mem_of_getElem? (i := 634) (by decide +kernel), List.mem_of_getElem? (i := 635) (by decide +kernel)⟩
theorem lw_p18 : lw_okq (⟨"RiverModel", "pointHolds", "(I)Z"⟩, 18) := ⟨⟨by decide +kernel, by decide +kernel⟩, List.mem_of_getElem? (i := 16) (by decide +kernel), List.mem_of_getElem? (i := 642) (by decide +kernel), List.mem_of_getElem? (i := 643) (by decide +kernel)⟩
theorem lw_p19 : lw_okq (⟨"RiverModel", "holdingPoint", "(I)I"⟩, 18) := ⟨⟨by decide +kernel, by decide +kernel⟩, List.mem_of_getElem? (i := 16) (by decide +kernel), List.mem_of_getElem? (i := 691) (by decide +kernel), List.mem_of_getElem? (i := 692) (by decide +kernel)⟩
theorem lw_p20 : lw_okq (⟨"RiverModel", "isBeyond", "(I)Z"⟩, 18) := ⟨⟨by decide +kernel, by decide +kernel⟩, List.mem_of_getElem? (i := 16) (by decide +kernel), List.mem_of_getElem? (i := 725) (by decide +kernel), List.mem_of_getElem? (i := 726) (by decide +kernel)⟩
theorem lw_p21 : lw_okq (⟨"RiverModel", "weightAbove", "(IIJ)I"⟩, 18) := ⟨⟨by decide +kernel, by decide +kernel⟩, List.mem_of_getElem? (i := 16) (by decide +kernel), List.mem_of_getElem? (i := 729) (by decide +kernel), List.mem_of_getElem? (i := 730) (by decide +kernel)⟩
theorem lw_p22 : lw_okq (⟨"RiverModel", "peakAhead", "(III)J"⟩, 18) := ⟨⟨by decide +kernel, by decide +kernel⟩, List.mem_of_getElem? (i := 16) (by decide +kernel), List.mem_of_getElem? (i := 733) (by decide +kernel), List.mem_of_getElem? (i := 734) (by decide +kernel)⟩
theorem lw_p23 : lw_okq (⟨"RiverModel$Search", "tryBlock", "(LRiverModel$Model;LRiverModel$Sky;LRiverModel$Gauges;LRiverModel$Course;IJ)V"⟩, 10) := ⟨⟨by decide +kernel, by decide +kernel⟩, List.mem_of_getElem? (i := 199) (by decide +kernel), List.mem_of_getElem? (i := 772) (by decide +kernel), List.mem_of_getElem? (i := 773) (by decide +kernel)⟩
theorem lw_p24 : lw_okq (⟨"RiverModel$Search", "peakOfBlock", "(LRiverModel$Model;LRiverModel$Sky;LRiverModel$Gauges;LRiverModel$Course;IJ)J"⟩, 10) := ⟨⟨by decide +kernel, by decide +kernel⟩, List.mem_of_getElem? (i := 199) (by decide +kernel), List.mem_of_getElem? (i := 778) (by decide +kernel), List.mem_of_getElem? (i := 779) (by decide +kernel)⟩
theorem lw_p25 : lw_okq (⟨"RiverModel$Search", "takeTried", "(J)V"⟩, 10) := ⟨⟨by decide +kernel, by decide +kernel⟩, List.mem_of_getElem? (i := 199) (by decide +kernel), List.mem_of_getElem? (i := 790) (by decide +kernel), List.mem_of_getElem? (i := 791) (by decide +kernel)⟩
theorem lw_p26 : lw_okq (⟨"RiverModel", "changedReading", "(III)J"⟩, 18) := ⟨⟨by decide +kernel, by decide +kernel⟩, List.mem_of_getElem? (i := 16) (by decide +kernel), List.mem_of_getElem? (i := 828) (by decide +kernel), List.mem_of_getElem? (i := 829) (by decide +kernel)⟩
theorem lw_p27 : lw_okq (⟨"RiverModelModel", "forgets", "()V"⟩, 36) := ⟨⟨by decide +kernel, by decide +kernel⟩, List.mem_of_getElem? (i := 860) (by decide +kernel), List.mem_of_getElem? (i := 866) (by decide +kernel), List.mem_of_getElem? (i := 867) (by decide +kernel)⟩
theorem lw_p28 : lw_okq (⟨"RiverModelModel", "faultOf", "()I"⟩, 36) := ⟨⟨by decide +kernel, by decide +kernel⟩, List.mem_of_getElem? (i := 860) (by decide +kernel), List.mem_of_getElem? (i := 996) (by decide +kernel), List.mem_of_getElem? (i := 997) (by decide +kernel)⟩
theorem lw_p29 : lw_okq (⟨"RiverModelModel", "readsItem", "(III)Z"⟩, 36) := ⟨⟨by decide +kernel, by decide +kernel⟩, List.mem_of_getElem? (i := 860) (by decide +kernel), List.mem_of_getElem? (i := 1000) (by decide +kernel), List.mem_of_getElem? (i := 1001) (by decide +kernel)⟩
theorem lw_p30 : lw_okq (⟨"RiverModelModel", "byteAt", "(I)I"⟩, 36) := ⟨⟨by decide +kernel, by decide +kernel⟩, List.mem_of_getElem? (i := 860) (by decide +kernel), List.mem_of_getElem? (i := 1004) (by decide +kernel), List.mem_of_getElem? (i := 1005) (by decide +kernel)⟩
theorem lw_p31 : lw_okq (⟨"RiverModelModel", "readsNumber", "(I)Z"⟩, 36) := ⟨⟨by decide +kernel, by decide +kernel⟩, List.mem_of_getElem? (i := 860) (by decide +kernel), List.mem_of_getElem? (i := 1016) (by decide +kernel), List.mem_of_getElem? (i := 1017) (by decide +kernel)⟩
def lw_privs_2 : List (MethodName × Nat) := [(⟨"RiverModel", "lacksGauge", "(I)Z"⟩, 18), (⟨"RiverModel$Knobs", "pointsOf", "(I)I"⟩, 5), (⟨"RiverModel", "pointHolds", "(I)Z"⟩, 18), (⟨"RiverModel", "holdingPoint", "(I)I"⟩, 18), (⟨"RiverModel", "isBeyond", "(I)Z"⟩, 18), (⟨"RiverModel", "weightAbove", "(IIJ)I"⟩, 18), (⟨"RiverModel", "peakAhead", "(III)J"⟩, 18), (⟨"RiverModel$Search", "tryBlock", "(LRiverModel$Model;LRiverModel$Sky;LRiverModel$Gauges;LRiverModel$Course;IJ)V"⟩, 10), (⟨"RiverModel$Search", "peakOfBlock", "(LRiverModel$Model;LRiverModel$Sky;LRiverModel$Gauges;LRiverModel$Course;IJ)J"⟩, 10), (⟨"RiverModel$Search", "takeTried", "(J)V"⟩, 10), (⟨"RiverModel", "changedReading", "(III)J"⟩, 18), (⟨"RiverModelModel", "forgets", "()V"⟩, 36), (⟨"RiverModelModel", "faultOf", "()I"⟩, 36), (⟨"RiverModelModel", "readsItem", "(III)Z"⟩, 36), (⟨"RiverModelModel", "byteAt", "(I)I"⟩, 36), (⟨"RiverModelModel", "readsNumber", "(I)Z"⟩, 36)]
theorem lw_r2 : ∀ q ∈ lw_privs_2, lw_okq q := List.forall_mem_cons.mpr ⟨lw_p16, List.forall_mem_cons.mpr ⟨lw_p17, List.forall_mem_cons.mpr ⟨lw_p18, List.forall_mem_cons.mpr ⟨lw_p19, List.forall_mem_cons.mpr ⟨lw_p20, List.forall_mem_cons.mpr ⟨lw_p21, List.forall_mem_cons.mpr ⟨lw_p22, List.forall_mem_cons.mpr ⟨lw_p23, List.forall_mem_cons.mpr ⟨lw_p24, List.forall_mem_cons.mpr ⟨lw_p25, List.forall_mem_cons.mpr ⟨lw_p26, List.forall_mem_cons.mpr ⟨lw_p27, List.forall_mem_cons.mpr ⟨lw_p28, List.forall_mem_cons.mpr ⟨lw_p29, List.forall_mem_cons.mpr ⟨lw_p30, List.forall_mem_cons.mpr ⟨lw_p31, fun _ h => absurd h List.not_mem_nil⟩⟩⟩⟩⟩⟩⟩⟩⟩⟩⟩⟩⟩⟩⟩⟩
theorem lw_p32 : lw_okq (⟨"RiverModelModel", "lays", "(II)V"⟩, 36) := ⟨⟨by decide +kernel, by decide +kernel⟩, List.mem_of_getElem? (i := 860) (by decide +kernel), List.mem_of_getElem? (i := 1031) (by decide +kernel), List.mem_of_getElem? (i := 1032) (by decide +kernel)⟩
theorem lw_p33 : lw_okq (⟨"RiverModelModel", "becomes", "(I)V"⟩, 36) := ⟨⟨by decide +kernel, by decide +kernel⟩, List.mem_of_getElem? (i := 860) (by decide +kernel), List.mem_of_getElem? (i := 1039) (by decide +kernel), List.mem_of_getElem? (i := 1040) (by decide +kernel)⟩
theorem lw_p34 : lw_okq (⟨"RiverModelModel", "copies", "(II)V"⟩, 36) := ⟨⟨by decide +kernel, by decide +kernel⟩, List.mem_of_getElem? (i := 860) (by decide +kernel), List.mem_of_getElem? (i := 1043) (by decide +kernel), List.mem_of_getElem? (i := 1044) (by decide +kernel)⟩
theorem lw_p35 : lw_okq (⟨"RiverModelModel", "startOf", "(II)I"⟩, 36) := ⟨⟨by decide +kernel, by decide +kernel⟩, List.mem_of_getElem? (i := 860) (by decide +kernel), List.mem_of_getElem? (i := 1047) (by decide +kernel), List.mem_of_getElem? (i := 1048) (by decide +kernel)⟩
theorem lw_p36 : lw_okq (⟨"RiverModelModel", "storeAt", "(II)I"⟩, 36) := ⟨⟨by decide +kernel, by decide +kernel⟩, List.mem_of_getElem? (i := 860) (by decide +kernel), List.mem_of_getElem? (i := 1051) (by decide +kernel), List.mem_of_getElem? (i := 1052) (by decide +kernel)⟩
theorem lw_p37 : lw_okq (⟨"RiverModelModel", "begins", "(IZ)V"⟩, 36) := ⟨⟨by decide +kernel, by decide +kernel⟩, List.mem_of_getElem? (i := 860) (by decide +kernel), List.mem_of_getElem? (i := 1055) (by decide +kernel), List.mem_of_getElem? (i := 1056) (by decide +kernel)⟩
theorem lw_p38 : lw_okq (⟨"RiverModelModel", "isStore", "(I)Z"⟩, 36) := ⟨⟨by decide +kernel, by decide +kernel⟩, List.mem_of_getElem? (i := 860) (by decide +kernel), List.mem_of_getElem? (i := 1062) (by decide +kernel), List.mem_of_getElem? (i := 1063) (by decide +kernel)⟩
theorem lw_p39 : lw_okq (⟨"RiverModelModel", "goes", "(II)V"⟩, 36) := ⟨⟨by decide +kernel, by decide +kernel⟩, List.mem_of_getElem? (i := 860) (by decide +kernel), List.mem_of_getElem? (i := 1087) (by decide +kernel), List.mem_of_getElem? (i := 1088) (by decide +kernel)⟩
theorem lw_p40 : lw_okq (⟨"RiverModelModel", "passes", "(III)V"⟩, 36) := ⟨⟨by decide +kernel, by decide +kernel⟩, List.mem_of_getElem? (i := 860) (by decide +kernel), List.mem_of_getElem? (i := 1091) (by decide +kernel), List.mem_of_getElem? (i := 1092) (by decide +kernel)⟩
theorem lw_p41 : lw_okq (⟨"RiverModelModel", "moves", "(IIII)J"⟩, 36) := ⟨⟨by decide +kernel, by decide +kernel⟩, List.mem_of_getElem? (i := 860) (by decide +kernel), List.mem_of_getElem? (i := 1095) (by decide +kernel), List.mem_of_getElem? (i := 1096) (by decide +kernel)⟩
theorem lw_p42 : lw_okq (⟨"RiverModelModel", "capacity", "(I)J"⟩, 36) := ⟨⟨by decide +kernel, by decide +kernel⟩, List.mem_of_getElem? (i := 860) (by decide +kernel), List.mem_of_getElem? (i := 1099) (by decide +kernel), List.mem_of_getElem? (i := 1100) (by decide +kernel)⟩
theorem lw_p43 : lw_okq (⟨"RiverModelModel", "most", "(IJ)J"⟩, 36) := ⟨⟨by decide +kernel, by decide +kernel⟩, List.mem_of_getElem? (i := 860) (by decide +kernel), List.mem_of_getElem? (i := 1103) (by decide +kernel), List.mem_of_getElem? (i := 1104) (by decide +kernel)⟩
theorem lw_p44 : lw_okq (⟨"RiverModelModel", "wayTo", "(I)J"⟩, 36) := ⟨⟨by decide +kernel, by decide +kernel⟩, List.mem_of_getElem? (i := 860) (by decide +kernel), List.mem_of_getElem? (i := 1115) (by decide +kernel), List.mem_of_getElem? (i := 1116) (by decide +kernel)⟩
theorem lw_p45 : lw_okq (⟨"RiverModelModel", "ofKind", "(I)I"⟩, 36) := ⟨⟨by decide +kernel, by decide +kernel⟩, List.mem_of_getElem? (i := 860) (by decide +kernel), List.mem_of_getElem? (i := 1128) (by decide +kernel), List.mem_of_getElem? (i := 1129) (by decide +kernel)⟩
theorem lw_p46 : lw_okq (⟨"RiverModelModel", "isSet", "(I)Z"⟩, 36) := ⟨⟨by decide +kernel, by decide +kernel⟩, List.mem_of_getElem? (i := 860) (by decide +kernel), List.mem_of_getElem? (i := 1144) (by decide +kernel), List.mem_of_getElem? (i := 1145) (by decide +kernel)⟩
theorem lw_p47 : lw_okq (⟨"RiverModelModel", "reading", "(I)J"⟩, 36) := ⟨⟨by decide +kernel, by decide +kernel⟩, List.mem_of_getElem? (i := 860) (by decide +kernel), List.mem_of_getElem? (i := 1148) (by decide +kernel), List.mem_of_getElem? (i := 1149) (by decide +kernel)⟩
def lw_privs_3 : List (MethodName × Nat) := [(⟨"RiverModelModel", "lays", "(II)V"⟩, 36), (⟨"RiverModelModel", "becomes", "(I)V"⟩, 36), (⟨"RiverModelModel", "copies", "(II)V"⟩, 36), (⟨"RiverModelModel", "startOf", "(II)I"⟩, 36), (⟨"RiverModelModel", "storeAt", "(II)I"⟩, 36), (⟨"RiverModelModel", "begins", "(IZ)V"⟩, 36), (⟨"RiverModelModel", "isStore", "(I)Z"⟩, 36), (⟨"RiverModelModel", "goes", "(II)V"⟩, 36), (⟨"RiverModelModel", "passes", "(III)V"⟩, 36), (⟨"RiverModelModel", "moves", "(IIII)J"⟩, 36), (⟨"RiverModelModel", "capacity", "(I)J"⟩, 36), (⟨"RiverModelModel", "most", "(IJ)J"⟩, 36), (⟨"RiverModelModel", "wayTo", "(I)J"⟩, 36), (⟨"RiverModelModel", "ofKind", "(I)I"⟩, 36), (⟨"RiverModelModel", "isSet", "(I)Z"⟩, 36), (⟨"RiverModelModel", "reading", "(I)J"⟩, 36)]
theorem lw_r3 : ∀ q ∈ lw_privs_3, lw_okq q := List.forall_mem_cons.mpr ⟨lw_p32, List.forall_mem_cons.mpr ⟨lw_p33, List.forall_mem_cons.mpr ⟨lw_p34, List.forall_mem_cons.mpr ⟨lw_p35, List.forall_mem_cons.mpr ⟨lw_p36, List.forall_mem_cons.mpr ⟨lw_p37, List.forall_mem_cons.mpr ⟨lw_p38, List.forall_mem_cons.mpr ⟨lw_p39, List.forall_mem_cons.mpr ⟨lw_p40, List.forall_mem_cons.mpr ⟨lw_p41, List.forall_mem_cons.mpr ⟨lw_p42, List.forall_mem_cons.mpr ⟨lw_p43, List.forall_mem_cons.mpr ⟨lw_p44, List.forall_mem_cons.mpr ⟨lw_p45, List.forall_mem_cons.mpr ⟨lw_p46, List.forall_mem_cons.mpr ⟨lw_p47, fun _ h => absurd h List.not_mem_nil⟩⟩⟩⟩⟩⟩⟩⟩⟩⟩⟩⟩⟩⟩⟩⟩
theorem lw_p48 : lw_okq (⟨"RiverModelModel", "fitsTo", "(I)I"⟩, 36) := ⟨⟨by decide +kernel, by decide +kernel⟩, List.mem_of_getElem? (i := 860) (by decide +kernel), List.mem_of_getElem? (i := 1172) (by decide +kernel), List.mem_of_getElem? (i := 1173) (by decide +kernel)⟩
theorem lw_p49 : lw_okq (⟨"RiverModelModel", "knobs", "(I)I"⟩, 36) := ⟨⟨by decide +kernel, by decide +kernel⟩, List.mem_of_getElem? (i := 860) (by decide +kernel), List.mem_of_getElem? (i := 1176) (by decide +kernel), List.mem_of_getElem? (i := 1177) (by decide +kernel)⟩
theorem lw_p50 : lw_okq (⟨"RiverModelModel", "holds", "(I)Z"⟩, 36) := ⟨⟨by decide +kernel, by decide +kernel⟩, List.mem_of_getElem? (i := 860) (by decide +kernel), List.mem_of_getElem? (i := 1180) (by decide +kernel), List.mem_of_getElem? (i := 1181) (by decide +kernel)⟩
theorem lw_p51 : lw_okq (⟨"RiverModelModel", "knobValue", "(II)I"⟩, 36) := ⟨⟨by decide +kernel, by decide +kernel⟩, List.mem_of_getElem? (i := 860) (by decide +kernel), List.mem_of_getElem? (i := 1184) (by decide +kernel), List.mem_of_getElem? (i := 1185) (by decide +kernel)⟩
theorem lw_p52 : lw_okq (⟨"RiverModelModel", "lastSeen", "()I"⟩, 36) := ⟨⟨by decide +kernel, by decide +kernel⟩, List.mem_of_getElem? (i := 860) (by decide +kernel), List.mem_of_getElem? (i := 1188) (by decide +kernel), List.mem_of_getElem? (i := 1189) (by decide +kernel)⟩
theorem lw_p53 : lw_okq (⟨"RiverModelModel", "asides", "()V"⟩, 36) := ⟨⟨by decide +kernel, by decide +kernel⟩, List.mem_of_getElem? (i := 860) (by decide +kernel), List.mem_of_getElem? (i := 1192) (by decide +kernel), List.mem_of_getElem? (i := 1193) (by decide +kernel)⟩
theorem lw_p54 : lw_okq (⟨"RiverModelModel", "returns", "()V"⟩, 36) := ⟨⟨by decide +kernel, by decide +kernel⟩, List.mem_of_getElem? (i := 860) (by decide +kernel), List.mem_of_getElem? (i := 1196) (by decide +kernel), List.mem_of_getElem? (i := 1197) (by decide +kernel)⟩
theorem lw_p55 : lw_okq (⟨"RiverModelModel", "canSee", "(II)Z"⟩, 36) := ⟨⟨by decide +kernel, by decide +kernel⟩, List.mem_of_getElem? (i := 860) (by decide +kernel), List.mem_of_getElem? (i := 1222) (by decide +kernel), List.mem_of_getElem? (i := 1223) (by decide +kernel)⟩
theorem lw_p56 : lw_okq (⟨"RiverModelModel", "chanceOf", "(IIJ)I"⟩, 36) := ⟨⟨by decide +kernel, by decide +kernel⟩, List.mem_of_getElem? (i := 860) (by decide +kernel), List.mem_of_getElem? (i := 1226) (by decide +kernel), List.mem_of_getElem? (i := 1227) (by decide +kernel)⟩
theorem lw_p57 : lw_okq (⟨"RiverModelModel", "peakBy", "(III)J"⟩, 36) := ⟨⟨by decide +kernel, by decide +kernel⟩, List.mem_of_getElem? (i := 860) (by decide +kernel), List.mem_of_getElem? (i := 1230) (by decide +kernel), List.mem_of_getElem? (i := 1231) (by decide +kernel)⟩
theorem lw_p58 : lw_okq (⟨"RiverModelModel", "byOpenings", "(IIIIJI)J"⟩, 36) := ⟨⟨by decide +kernel, by decide +kernel⟩, List.mem_of_getElem? (i := 860) (by decide +kernel), List.mem_of_getElem? (i := 1251) (by decide +kernel), List.mem_of_getElem? (i := 1252) (by decide +kernel)⟩
theorem lw_p59 : lw_okq (⟨"RiverModelModel", "trial", "(IIZII)J"⟩, 36) := ⟨⟨by decide +kernel, by decide +kernel⟩, List.mem_of_getElem? (i := 860) (by decide +kernel), List.mem_of_getElem? (i := 1278) (by decide +kernel), List.mem_of_getElem? (i := 1279) (by decide +kernel)⟩
def lw_privs_4 : List (MethodName × Nat) := [(⟨"RiverModelModel", "fitsTo", "(I)I"⟩, 36), (⟨"RiverModelModel", "knobs", "(I)I"⟩, 36), (⟨"RiverModelModel", "holds", "(I)Z"⟩, 36), (⟨"RiverModelModel", "knobValue", "(II)I"⟩, 36), (⟨"RiverModelModel", "lastSeen", "()I"⟩, 36), (⟨"RiverModelModel", "asides", "()V"⟩, 36), (⟨"RiverModelModel", "returns", "()V"⟩, 36), (⟨"RiverModelModel", "canSee", "(II)Z"⟩, 36), (⟨"RiverModelModel", "chanceOf", "(IIJ)I"⟩, 36), (⟨"RiverModelModel", "peakBy", "(III)J"⟩, 36), (⟨"RiverModelModel", "byOpenings", "(IIIIJI)J"⟩, 36), (⟨"RiverModelModel", "trial", "(IIZII)J"⟩, 36)]
theorem lw_r4 : ∀ q ∈ lw_privs_4, lw_okq q := List.forall_mem_cons.mpr ⟨lw_p48, List.forall_mem_cons.mpr ⟨lw_p49, List.forall_mem_cons.mpr ⟨lw_p50, List.forall_mem_cons.mpr ⟨lw_p51, List.forall_mem_cons.mpr ⟨lw_p52, List.forall_mem_cons.mpr ⟨lw_p53, List.forall_mem_cons.mpr ⟨lw_p54, List.forall_mem_cons.mpr ⟨lw_p55, List.forall_mem_cons.mpr ⟨lw_p56, List.forall_mem_cons.mpr ⟨lw_p57, List.forall_mem_cons.mpr ⟨lw_p58, List.forall_mem_cons.mpr ⟨lw_p59, fun _ h => absurd h List.not_mem_nil⟩⟩⟩⟩⟩⟩⟩⟩⟩⟩⟩⟩
def lw_privs : List (MethodName × Nat) := lw_privs_1 ++ (lw_privs_2 ++ (lw_privs_3 ++ (lw_privs_4)))
def lw_tbl : List Cond := k2_sels lw_privs ++ tables_1
theorem lw_privs_ok : ∀ q ∈ lw_privs, lw_okq q := by
  show ∀ q ∈ lw_privs_1 ++ (lw_privs_2 ++ (lw_privs_3 ++ (lw_privs_4))), lw_okq q
  exact List.forall_mem_append.mpr ⟨lw_r1, List.forall_mem_append.mpr ⟨lw_r2, List.forall_mem_append.mpr ⟨lw_r3, lw_r4⟩⟩⟩
end
section
/-! ===== BEGIN words of one list among another's, by their places ===== -/
theorem goodIn_r {big : List Cond} (ws : List Cond) (ps : List Nat) (hp : ws = ps.filterMap (fun i => big[i]?)) (h : ws.all goodWord = true) : GoodIn big ws := by
  intro w hw
  have h1 := List.all_eq_true.mp h w hw
  rw [hp] at hw
  obtain ⟨i, -, hi⟩ := List.mem_filterMap.mp hw
  have hm : w ∈ big := by first | exact List.mem_of_getElem? hi | exact List.getElem?_mem hi
  exact ⟨hm, good_of_word h1⟩
theorem goodIn_app {big a b : List Cond} (ha : GoodIn big a) (hb : GoodIn big b) : GoodIn big (a ++ b) := fun w h => (List.mem_append.mp h).elim (ha w) (hb w)
theorem goodIn_ca {big a b : List Cond} {c : Cond} (ha : GoodIn big (c :: a)) (hb : GoodIn big b) : GoodIn big (c :: (a ++ b)) := fun w h => (List.mem_cons.mp h).elim (fun e => ha w (List.mem_cons.mpr (Or.inl e))) (fun h => (List.mem_append.mp h).elim (fun h => ha w (List.mem_cons.mpr (Or.inr h))) (hb w))
theorem goodIn_sub {big ws : List Cond} (hm : ∀ w ∈ ws, w ∈ big) (h : ws.all goodWord = true) : GoodIn big ws := fun w hw => ⟨hm w hw, good_of_word (List.all_eq_true.mp h w hw)⟩
/-! ===== END ===== -/

/-! ===== BEGIN printed: names, fields, word lists, decode rows ===== -/
def RX0 : String := "RiverModel$Course"
def TX0 : u_T := fun k => match k with
  | 0 => ("RiverModel$Course", "held", "[J", true)
  | 1 => ("RiverModel$Course", "moved", "[J", true)
  | 2 => ("RiverModel$Course", "openings", "[I", true)
  | 3 => ("RiverModel$Course", "due", "[J", true)
  | 4 => ("RiverModel$Course", "rained", "J", false)
  | 5 => ("RiverModel$Course", "air", "J", false)
  | 6 => ("RiverModel$Course", "sea", "J", false)
  | _ => ("RiverModel$Course", "hours", "I", false)
def tyX0 : Nat → FieldType := fun k => match k with
  | 0 => .array .long
  | 1 => .array .long
  | 2 => .array .int
  | 3 => .array .long
  | 4 => .long
  | 5 => .long
  | 6 => .long
  | _ => .int
abbrev wsX00 : List Cond := u_ws RX0 TX0 8
theorem nmX0 : ∀ a, a < 8 → ∀ b, b < 8 → a ≠ b → (TX0 a).2.1 ≠ (TX0 b).2.1 := by decide +kernel
theorem tyX0_ok : ∀ k, k < 8 → parseFieldDescriptor (TX0 k).2.2.1 = some (tyX0 k) := by decide +kernel
abbrev cX0_init : ByteArray := prog_2_method_1_code
def yX0_init : MethodName := ⟨RX0, "<init>", "()V"⟩
abbrev cX0_begin : ByteArray := prog_2_method_2_code
def yX0_begin : MethodName := ⟨RX0, "begin", "(LRiverModel$Model;)V"⟩
abbrev cX0_startFrom : ByteArray := prog_2_method_3_code
def yX0_startFrom : MethodName := ⟨RX0, "startFrom", "([I)V"⟩
abbrev cX0_copyFrom : ByteArray := prog_2_method_4_code
def yX0_copyFrom : MethodName := ⟨RX0, "copyFrom", "(LRiverModel$Course;)V"⟩
abbrev cX0_goHourBy : ByteArray := prog_2_method_5_code
def yX0_goHourBy : MethodName := ⟨RX0, "goHourBy", "(LRiverModel$Model;LRiverModel$Sky;)V"⟩
abbrev cX0_goHour : ByteArray := prog_2_method_6_code
def yX0_goHour : MethodName := ⟨RX0, "goHour", "(LRiverModel$Model;II)V"⟩
abbrev cX0_bringDue : ByteArray := prog_2_method_7_code
def yX0_bringDue : MethodName := ⟨RX0, "bringDue", "()V"⟩
abbrev cX0_amountOf : ByteArray := prog_2_method_8_code
def yX0_amountOf : MethodName := ⟨RX0, "amountOf", "(LRiverModel$Model;III)J"⟩
abbrev cX0_leakOf : ByteArray := prog_2_method_9_code
def yX0_leakOf : MethodName := ⟨RX0, "leakOf", "(JJJJ)J"⟩
abbrev cX0_openingOf : ByteArray := prog_2_method_10_code
def yX0_openingOf : MethodName := ⟨RX0, "openingOf", "(I)J"⟩
abbrev cX0_move : ByteArray := prog_2_method_11_code
def yX0_move : MethodName := ⟨RX0, "move", "(LRiverModel$Model;IJ)V"⟩
abbrev cX0_send : ByteArray := prog_2_method_12_code
def yX0_send : MethodName := ⟨RX0, "send", "(IIJ)V"⟩
abbrev cX0_heldByAll : ByteArray := prog_2_method_13_code
def yX0_heldByAll : MethodName := ⟨RX0, "heldByAll", "()J"⟩
abbrev cX0_underWayTo : ByteArray := prog_2_method_14_code
def yX0_underWayTo : MethodName := ⟨RX0, "underWayTo", "(I)J"⟩
abbrev cX0_underWayToAll : ByteArray := prog_2_method_15_code
def yX0_underWayToAll : MethodName := ⟨RX0, "underWayToAll", "()J"⟩
def RX1 : String := "RiverModel$Gauges"
def TX1 : u_T := fun k => match k with
  | 0 => ("RiverModel$Gauges", "whats", "[I", true)
  | 1 => ("RiverModel$Gauges", "places", "[I", true)
  | 2 => ("RiverModel$Gauges", "seen", "[I", true)
  | _ => ("RiverModel$Gauges", "mayBeOff", "I", false)
def tyX1 : Nat → FieldType := fun k => match k with
  | 0 => .array .int
  | 1 => .array .int
  | 2 => .array .int
  | _ => .int
abbrev wsX10 : List Cond := u_ws RX1 TX1 4
theorem nmX1 : ∀ a, a < 4 → ∀ b, b < 4 → a ≠ b → (TX1 a).2.1 ≠ (TX1 b).2.1 := by decide +kernel
theorem tyX1_ok : ∀ k, k < 4 → parseFieldDescriptor (TX1 k).2.2.1 = some (tyX1 k) := by decide +kernel
abbrev cX1_init : ByteArray := prog_3_method_1_code
def yX1_init : MethodName := ⟨RX1, "<init>", "()V"⟩
abbrev cX1_unsetAll : ByteArray := prog_3_method_2_code
def yX1_unsetAll : MethodName := ⟨RX1, "unsetAll", "()V"⟩
abbrev cX1_set : ByteArray := prog_3_method_3_code
def yX1_set : MethodName := ⟨RX1, "set", "(III)V"⟩
abbrev cX1_isSet : ByteArray := prog_3_method_4_code
def yX1_isSet : MethodName := ⟨RX1, "isSet", "(I)Z"⟩
abbrev cX1_reading : ByteArray := prog_3_method_5_code
def yX1_reading : MethodName := ⟨RX1, "reading", "(LRiverModel$Course;I)J"⟩
abbrev cX1_putSeen : ByteArray := prog_3_method_6_code
def yX1_putSeen : MethodName := ⟨RX1, "putSeen", "(III)I"⟩
abbrev cX1_agree : ByteArray := prog_3_method_7_code
def yX1_agree : MethodName := ⟨RX1, "agree", "(LRiverModel$Course;I)Z"⟩
abbrev cX1_lastSeen : ByteArray := prog_3_method_8_code
def yX1_lastSeen : MethodName := ⟨RX1, "lastSeen", "()I"⟩
abbrev cX1_setMany : ByteArray := prog_3_method_9_code
def yX1_setMany : MethodName := ⟨RX1, "setMany", "()I"⟩
abbrev cX1_seenMany : ByteArray := prog_3_method_10_code
def yX1_seenMany : MethodName := ⟨RX1, "seenMany", "()I"⟩
def RX2 : String := "RiverModel$Kinds"
def TX2 : u_T := fun k => match k with
  | _ => ("", "", "", false)
def tyX2 : Nat → FieldType := fun k => match k with
  | _ => .int
abbrev wsX20 : List Cond := u_ws RX2 TX2 0
theorem nmX2 : ∀ a, a < 0 → ∀ b, b < 0 → a ≠ b → (TX2 a).2.1 ≠ (TX2 b).2.1 := by decide +kernel
theorem tyX2_ok : ∀ k, k < 0 → parseFieldDescriptor (TX2 k).2.2.1 = some (tyX2 k) := by decide +kernel
abbrev cX2_namesOf : ByteArray := prog_4_method_2_code
def yX2_namesOf : MethodName := ⟨RX2, "namesOf", "(I)I"⟩
abbrev cX2_numbersOf : ByteArray := prog_4_method_3_code
def yX2_numbersOf : MethodName := ⟨RX2, "numbersOf", "(I)I"⟩
abbrev cX2_areNumbersAsTold : ByteArray := prog_4_method_4_code
def yX2_areNumbersAsTold : MethodName := ⟨RX2, "areNumbersAsTold", "(IIII)Z"⟩
abbrev cX2_isUpTo : ByteArray := prog_4_method_5_code
def yX2_isUpTo : MethodName := ⟨RX2, "isUpTo", "(II)Z"⟩
def RX3 : String := "RiverModel$Knobs"
def TX3 : u_T := fun k => match k with
  | 0 => ("RiverModel$Knobs", "items", "[I", true)
  | 1 => ("RiverModel$Knobs", "numbers", "[I", true)
  | 2 => ("RiverModel$Knobs", "froms", "[I", true)
  | 3 => ("RiverModel$Knobs", "steps", "[I", true)
  | _ => ("RiverModel$Knobs", "manys", "[I", true)
def tyX3 : Nat → FieldType := fun k => match k with
  | 0 => .array .int
  | 1 => .array .int
  | 2 => .array .int
  | 3 => .array .int
  | _ => .array .int
abbrev wsX30 : List Cond := u_ws RX3 TX3 5
theorem nmX3 : ∀ a, a < 5 → ∀ b, b < 5 → a ≠ b → (TX3 a).2.1 ≠ (TX3 b).2.1 := by decide +kernel
theorem tyX3_ok : ∀ k, k < 5 → parseFieldDescriptor (TX3 k).2.2.1 = some (tyX3 k) := by decide +kernel
abbrev cX3_init : ByteArray := prog_5_method_1_code
def yX3_init : MethodName := ⟨RX3, "<init>", "()V"⟩
abbrev cX3_unsetAll : ByteArray := prog_5_method_2_code
def yX3_unsetAll : MethodName := ⟨RX3, "unsetAll", "()V"⟩
abbrev cX3_set : ByteArray := prog_5_method_3_code
def yX3_set : MethodName := ⟨RX3, "set", "(IIIIII)V"⟩
abbrev cX3_isSet : ByteArray := prog_5_method_4_code
def yX3_isSet : MethodName := ⟨RX3, "isSet", "(I)Z"⟩
abbrev cX3_setMany : ByteArray := prog_5_method_5_code
def yX3_setMany : MethodName := ⟨RX3, "setMany", "()I"⟩
abbrev cX3_points : ByteArray := prog_5_method_6_code
def yX3_points : MethodName := ⟨RX3, "points", "()I"⟩
abbrev cX3_pointsOf : ByteArray := prog_5_method_7_code
def yX3_pointsOf : MethodName := ⟨RX3, "pointsOf", "(I)I"⟩
abbrev cX3_numberAt : ByteArray := prog_5_method_8_code
def yX3_numberAt : MethodName := ⟨RX3, "numberAt", "(II)I"⟩
abbrev cX3_lay : ByteArray := prog_5_method_9_code
def yX3_lay : MethodName := ⟨RX3, "lay", "(ILRiverModel$Model;)Z"⟩
def RX4 : String := "RiverModel$Model"
def TX4 : u_T := fun k => match k with
  | 0 => ("RiverModel$Model", "cells", "[I", true)
  | 1 => ("RiverModel$Model", "storeItems", "[I", true)
  | 2 => ("RiverModel$Model", "gateItems", "[I", true)
  | 3 => ("RiverModel$Model", "many", "I", false)
  | 4 => ("RiverModel$Model", "stores", "I", false)
  | _ => ("RiverModel$Model", "gates", "I", false)
def tyX4 : Nat → FieldType := fun k => match k with
  | 0 => .array .int
  | 1 => .array .int
  | 2 => .array .int
  | 3 => .int
  | 4 => .int
  | _ => .int
abbrev wsX40 : List Cond := u_ws RX4 TX4 6
theorem nmX4 : ∀ a, a < 6 → ∀ b, b < 6 → a ≠ b → (TX4 a).2.1 ≠ (TX4 b).2.1 := by decide +kernel
theorem tyX4_ok : ∀ k, k < 6 → parseFieldDescriptor (TX4 k).2.2.1 = some (tyX4 k) := by decide +kernel
abbrev cX4_init : ByteArray := prog_6_method_1_code
def yX4_init : MethodName := ⟨RX4, "<init>", "()V"⟩
abbrev cX4_empty : ByteArray := prog_6_method_2_code
def yX4_empty : MethodName := ⟨RX4, "empty", "()V"⟩
abbrev cX4_copyFrom : ByteArray := prog_6_method_3_code
def yX4_copyFrom : MethodName := ⟨RX4, "copyFrom", "(LRiverModel$Model;)V"⟩
abbrev cX4_cell : ByteArray := prog_6_method_4_code
def yX4_cell : MethodName := ⟨RX4, "cell", "(II)I"⟩
abbrev cX4_putCell : ByteArray := prog_6_method_5_code
def yX4_putCell : MethodName := ⟨RX4, "putCell", "(III)V"⟩
abbrev cX4_put : ByteArray := prog_6_method_6_code
def yX4_put : MethodName := ⟨RX4, "put", "(I[I)V"⟩
abbrev cX4_add : ByteArray := prog_6_method_7_code
def yX4_add : MethodName := ⟨RX4, "add", "([I)V"⟩
abbrev cX4_mayFollow : ByteArray := prog_6_method_8_code
def yX4_mayFollow : MethodName := ⟨RX4, "mayFollow", "([I)Z"⟩
abbrev cX4_mayReplace : ByteArray := prog_6_method_9_code
def yX4_mayReplace : MethodName := ⟨RX4, "mayReplace", "(I[I)Z"⟩
abbrev cX4_areNumbersAsTold : ByteArray := prog_6_method_10_code
def yX4_areNumbersAsTold : MethodName := ⟨RX4, "areNumbersAsTold", "([I)Z"⟩
abbrev cX4_areNamesAhead : ByteArray := prog_6_method_11_code
def yX4_areNamesAhead : MethodName := ⟨RX4, "areNamesAhead", "([II)Z"⟩
abbrev cX4_isStoreAhead : ByteArray := prog_6_method_12_code
def yX4_isStoreAhead : MethodName := ⟨RX4, "isStoreAhead", "(II)Z"⟩
abbrev cX4_hasStore : ByteArray := prog_6_method_13_code
def yX4_hasStore : MethodName := ⟨RX4, "hasStore", "(I)Z"⟩
abbrev cX4_hasNumber : ByteArray := prog_6_method_14_code
def yX4_hasNumber : MethodName := ⟨RX4, "hasNumber", "(II)Z"⟩
abbrev cX4_isItemAsTold : ByteArray := prog_6_method_15_code
def yX4_isItemAsTold : MethodName := ⟨RX4, "isItemAsTold", "(I)Z"⟩
abbrev cX4_capacityOf : ByteArray := prog_6_method_16_code
def yX4_capacityOf : MethodName := ⟨RX4, "capacityOf", "(I)I"⟩
abbrev cX4_startOf : ByteArray := prog_6_method_17_code
def yX4_startOf : MethodName := ⟨RX4, "startOf", "(I)I"⟩
abbrev cX4_startOfAll : ByteArray := prog_6_method_18_code
def yX4_startOfAll : MethodName := ⟨RX4, "startOfAll", "()J"⟩
abbrev cX4_gateOf : ByteArray := prog_6_method_19_code
def yX4_gateOf : MethodName := ⟨RX4, "gateOf", "(I)I"⟩
def RX5 : String := "RiverModel$Search"
def TX5 : u_T := fun k => match k with
  | 0 => ("RiverModel$Search", "blockEnds", "[LRiverModel$Course;", true)
  | 1 => ("RiverModel$Search", "tried", "[I", true)
  | 2 => ("RiverModel$Search", "found", "[I", true)
  | 3 => ("RiverModel$Search", "isFound", "Z", false)
  | 4 => ("RiverModel$Search", "leastPeak", "J", false)
  | 5 => ("RiverModel$Search", "gate", "I", false)
  | 6 => ("RiverModel$Search", "blockHours", "I", false)
  | 7 => ("RiverModel$Search", "gauge", "I", false)
  | 8 => ("RiverModel$Search", "store", "I", false)
  | _ => ("RiverModel$Search", "limit", "J", false)
def tyX5 : Nat → FieldType := fun k => match k with
  | 0 => .array (.object "RiverModel$Course")
  | 1 => .array .int
  | 2 => .array .int
  | 3 => .boolean
  | 4 => .long
  | 5 => .int
  | 6 => .int
  | 7 => .int
  | 8 => .int
  | _ => .long
abbrev wsX50 : List Cond := u_ws RX5 TX5 10
theorem nmX5 : ∀ a, a < 10 → ∀ b, b < 10 → a ≠ b → (TX5 a).2.1 ≠ (TX5 b).2.1 := by decide +kernel
theorem tyX5_ok : ∀ k, k < 10 → parseFieldDescriptor (TX5 k).2.2.1 = some (tyX5 k) := by decide +kernel
abbrev cX5_init : ByteArray := prog_7_method_1_code
def yX5_init : MethodName := ⟨RX5, "<init>", "()V"⟩
abbrev cX5_prepare : ByteArray := prog_7_method_2_code
def yX5_prepare : MethodName := ⟨RX5, "prepare", "(IIIIJ)V"⟩
abbrev cX5_tryBlock : ByteArray := prog_7_method_3_code
def yX5_tryBlock : MethodName := ⟨RX5, "tryBlock", "(LRiverModel$Model;LRiverModel$Sky;LRiverModel$Gauges;LRiverModel$Course;IJ)V"⟩
abbrev cX5_peakOfBlock : ByteArray := prog_7_method_4_code
def yX5_peakOfBlock : MethodName := ⟨RX5, "peakOfBlock", "(LRiverModel$Model;LRiverModel$Sky;LRiverModel$Gauges;LRiverModel$Course;IJ)J"⟩
abbrev cX5_takeTried : ByteArray := prog_7_method_5_code
def yX5_takeTried : MethodName := ⟨RX5, "takeTried", "(J)V"⟩
def RX6 : String := "RiverModel$Sky"
def TX6 : u_T := fun k => match k with
  | 0 => ("RiverModel$Sky", "rains", "[I", true)
  | _ => ("RiverModel$Sky", "temps", "[I", true)
def tyX6 : Nat → FieldType := fun k => match k with
  | 0 => .array .int
  | _ => .array .int
abbrev wsX60 : List Cond := u_ws RX6 TX6 2
theorem nmX6 : ∀ a, a < 2 → ∀ b, b < 2 → a ≠ b → (TX6 a).2.1 ≠ (TX6 b).2.1 := by decide +kernel
theorem tyX6_ok : ∀ k, k < 2 → parseFieldDescriptor (TX6 k).2.2.1 = some (tyX6 k) := by decide +kernel
abbrev cX6_init : ByteArray := prog_8_method_1_code
def yX6_init : MethodName := ⟨RX6, "<init>", "()V"⟩
abbrev cX6_rainIn : ByteArray := prog_8_method_2_code
def yX6_rainIn : MethodName := ⟨RX6, "rainIn", "(I)I"⟩
abbrev cX6_tempIn : ByteArray := prog_8_method_3_code
def yX6_tempIn : MethodName := ⟨RX6, "tempIn", "(I)I"⟩
def RX7 : String := "RiverModel$Text"
def TX7 : u_T := fun k => match k with
  | 0 => ("RiverModel$Text", "bytes", "[I", true)
  | 1 => ("RiverModel$Text", "row", "[I", true)
  | 2 => ("RiverModel$Text", "length", "I", false)
  | _ => ("RiverModel$Text", "at", "I", false)
def tyX7 : Nat → FieldType := fun k => match k with
  | 0 => .array .int
  | 1 => .array .int
  | 2 => .int
  | _ => .int
abbrev wsX70 : List Cond := u_ws RX7 TX7 4
theorem nmX7 : ∀ a, a < 4 → ∀ b, b < 4 → a ≠ b → (TX7 a).2.1 ≠ (TX7 b).2.1 := by decide +kernel
theorem tyX7_ok : ∀ k, k < 4 → parseFieldDescriptor (TX7 k).2.2.1 = some (tyX7 k) := by decide +kernel
abbrev cX7_init : ByteArray := prog_9_method_1_code
def yX7_init : MethodName := ⟨RX7, "<init>", "()V"⟩
abbrev cX7_append : ByteArray := prog_9_method_2_code
def yX7_append : MethodName := ⟨RX7, "append", "(IJ)V"⟩
abbrev cX7_readInto : ByteArray := prog_9_method_3_code
def yX7_readInto : MethodName := ⟨RX7, "readInto", "(LRiverModel$Model;)I"⟩
abbrev cX7_readAlone : ByteArray := prog_9_method_4_code
def yX7_readAlone : MethodName := ⟨RX7, "readAlone", "()Z"⟩
abbrev cX7_readItem : ByteArray := prog_9_method_5_code
def yX7_readItem : MethodName := ⟨RX7, "readItem", "()Z"⟩
abbrev cX7_readName : ByteArray := prog_9_method_6_code
def yX7_readName : MethodName := ⟨RX7, "readName", "(I)Z"⟩
abbrev cX7_readNumber : ByteArray := prog_9_method_7_code
def yX7_readNumber : MethodName := ⟨RX7, "readNumber", "(I)Z"⟩
abbrev cX7_isAtFigure : ByteArray := prog_9_method_8_code
def yX7_isAtFigure : MethodName := ⟨RX7, "isAtFigure", "()Z"⟩
abbrev cX7_nextByte : ByteArray := prog_9_method_9_code
def yX7_nextByte : MethodName := ⟨RX7, "nextByte", "()I"⟩
def RX8 : String := "RiverModel$Worlds"
def TX8 : u_T := fun k => match k with
  | 0 => ("RiverModel$Worlds", "weights", "[I", true)
  | 1 => ("RiverModel$Worlds", "warnings", "[I", true)
  | _ => ("RiverModel$Worlds", "rains", "[I", true)
def tyX8 : Nat → FieldType := fun k => match k with
  | 0 => .array .int
  | 1 => .array .int
  | _ => .array .int
abbrev wsX80 : List Cond := u_ws RX8 TX8 3
theorem nmX8 : ∀ a, a < 3 → ∀ b, b < 3 → a ≠ b → (TX8 a).2.1 ≠ (TX8 b).2.1 := by decide +kernel
theorem tyX8_ok : ∀ k, k < 3 → parseFieldDescriptor (TX8 k).2.2.1 = some (tyX8 k) := by decide +kernel
abbrev cX8_init : ByteArray := prog_10_method_1_code
def yX8_init : MethodName := ⟨RX8, "<init>", "()V"⟩
abbrev cX8_putRain : ByteArray := prog_10_method_2_code
def yX8_putRain : MethodName := ⟨RX8, "putRain", "(III)I"⟩
abbrev cX8_rainAhead : ByteArray := prog_10_method_3_code
def yX8_rainAhead : MethodName := ⟨RX8, "rainAhead", "(II)I"⟩
abbrev cX8_weightOfAll : ByteArray := prog_10_method_4_code
def yX8_weightOfAll : MethodName := ⟨RX8, "weightOfAll", "()I"⟩
abbrev cX8_enter : ByteArray := prog_10_method_5_code
def yX8_enter : MethodName := ⟨RX8, "enter", "(ZZ)V"⟩
def RX9 : String := "RiverModel"
def TX9 : u_T := fun k => match k with
  | 0 => ("RiverModel", "text", "LRiverModel$Text;", true)
  | 1 => ("RiverModel", "model", "LRiverModel$Model;", false)
  | 2 => ("RiverModel", "draft", "LRiverModel$Model;", false)
  | 3 => ("RiverModel", "other", "LRiverModel$Model;", true)
  | 4 => ("RiverModel", "isBuilt", "Z", false)
  | 5 => ("RiverModel", "isOtherLaid", "Z", false)
  | 6 => ("RiverModel", "skyA", "LRiverModel$Sky;", true)
  | 7 => ("RiverModel", "skyB", "LRiverModel$Sky;", true)
  | 8 => ("RiverModel", "startsB", "[I", true)
  | 9 => ("RiverModel", "now", "LRiverModel$Course;", true)
  | 10 => ("RiverModel", "trial", "LRiverModel$Course;", true)
  | 11 => ("RiverModel", "second", "LRiverModel$Course;", true)
  | 12 => ("RiverModel", "kept", "[LRiverModel$Course;", true)
  | 13 => ("RiverModel", "keptMany", "I", false)
  | 14 => ("RiverModel", "gauges", "LRiverModel$Gauges;", true)
  | 15 => ("RiverModel", "knobs", "LRiverModel$Knobs;", true)
  | 16 => ("RiverModel", "worlds", "LRiverModel$Worlds;", true)
  | _ => ("RiverModel", "search", "LRiverModel$Search;", true)
def tyX9 : Nat → FieldType := fun k => match k with
  | 0 => .object "RiverModel$Text"
  | 1 => .object "RiverModel$Model"
  | 2 => .object "RiverModel$Model"
  | 3 => .object "RiverModel$Model"
  | 4 => .boolean
  | 5 => .boolean
  | 6 => .object "RiverModel$Sky"
  | 7 => .object "RiverModel$Sky"
  | 8 => .array .int
  | 9 => .object "RiverModel$Course"
  | 10 => .object "RiverModel$Course"
  | 11 => .object "RiverModel$Course"
  | 12 => .array (.object "RiverModel$Course")
  | 13 => .int
  | 14 => .object "RiverModel$Gauges"
  | 15 => .object "RiverModel$Knobs"
  | 16 => .object "RiverModel$Worlds"
  | _ => .object "RiverModel$Search"
abbrev wsX90 : List Cond := u_ws RX9 TX9 18
theorem nmX9 : ∀ a, a < 18 → ∀ b, b < 18 → a ≠ b → (TX9 a).2.1 ≠ (TX9 b).2.1 := by decide +kernel
theorem tyX9_ok : ∀ k, k < 18 → parseFieldDescriptor (TX9 k).2.2.1 = some (tyX9 k) := by decide +kernel
abbrev cX9_init : ByteArray := prog_1_method_1_code
def yX9_init : MethodName := ⟨RX9, "<init>", "()V"⟩
abbrev cX9_write : ByteArray := prog_1_method_2_code
def yX9_write : MethodName := ⟨RX9, "write", "(IJ)I"⟩
abbrev cX9_clear : ByteArray := prog_1_method_3_code
def yX9_clear : MethodName := ⟨RX9, "clear", "()I"⟩
abbrev cX9_fault : ByteArray := prog_1_method_4_code
def yX9_fault : MethodName := ⟨RX9, "fault", "()I"⟩
abbrev cX9_build : ByteArray := prog_1_method_5_code
def yX9_build : MethodName := ⟨RX9, "build", "()I"⟩
abbrev cX9_item : ByteArray := prog_1_method_6_code
def yX9_item : MethodName := ⟨RX9, "item", "(II)I"⟩
abbrev cX9_weather : ByteArray := prog_1_method_7_code
def yX9_weather : MethodName := ⟨RX9, "weather", "(IIII)I"⟩
abbrev cX9_anew : ByteArray := prog_1_method_8_code
def yX9_anew : MethodName := ⟨RX9, "anew", "()I"⟩
abbrev cX9_run : ByteArray := prog_1_method_9_code
def yX9_run : MethodName := ⟨RX9, "run", "(I)I"⟩
abbrev cX9_has : ByteArray := prog_1_method_10_code
def yX9_has : MethodName := ⟨RX9, "has", "(II)J"⟩
abbrev cX9_flow : ByteArray := prog_1_method_11_code
def yX9_flow : MethodName := ⟨RX9, "flow", "(I)J"⟩
abbrev cX9_gate : ByteArray := prog_1_method_12_code
def yX9_gate : MethodName := ⟨RX9, "gate", "(II)I"⟩
abbrev cX9_book : ByteArray := prog_1_method_13_code
def yX9_book : MethodName := ⟨RX9, "book", "(I)J"⟩
abbrev cX9_gauge : ByteArray := prog_1_method_14_code
def yX9_gauge : MethodName := ⟨RX9, "gauge", "(III)I"⟩
abbrev cX9_reads : ByteArray := prog_1_method_15_code
def yX9_reads : MethodName := ⟨RX9, "reads", "(I)J"⟩
abbrev cX9_see : ByteArray := prog_1_method_16_code
def yX9_see : MethodName := ⟨RX9, "see", "(III)I"⟩
abbrev cX9_ends : ByteArray := prog_1_method_17_code
def yX9_ends : MethodName := ⟨RX9, "ends", "(I)I"⟩
abbrev cX9_knob : ByteArray := prog_1_method_18_code
def yX9_knob : MethodName := ⟨RX9, "knob", "(IIIIII)I"⟩
abbrev cX9_fits : ByteArray := prog_1_method_19_code
def yX9_fits : MethodName := ⟨RX9, "fits", "()I"⟩
abbrev cX9_fit : ByteArray := prog_1_method_20_code
def yX9_fit : MethodName := ⟨RX9, "fit", "(II)I"⟩
abbrev cX9_take : ByteArray := prog_1_method_21_code
def yX9_take : MethodName := ⟨RX9, "take", "(I)I"⟩
abbrev cX9_weigh : ByteArray := prog_1_method_22_code
def yX9_weigh : MethodName := ⟨RX9, "weigh", "(II)I"⟩
abbrev cX9_rain : ByteArray := prog_1_method_23_code
def yX9_rain : MethodName := ⟨RX9, "rain", "(III)I"⟩
abbrev cX9_chance : ByteArray := prog_1_method_24_code
def yX9_chance : MethodName := ⟨RX9, "chance", "(IIJ)I"⟩
abbrev cX9_warn : ByteArray := prog_1_method_25_code
def yX9_warn : MethodName := ⟨RX9, "warn", "(IIJI)I"⟩
abbrev cX9_booked : ByteArray := prog_1_method_26_code
def yX9_booked : MethodName := ⟨RX9, "booked", "(I)I"⟩
abbrev cX9_peak : ByteArray := prog_1_method_27_code
def yX9_peak : MethodName := ⟨RX9, "peak", "(III)J"⟩
abbrev cX9_best : ByteArray := prog_1_method_28_code
def yX9_best : MethodName := ⟨RX9, "best", "(IIIIJI)J"⟩
abbrev cX9_swap : ByteArray := prog_1_method_29_code
def yX9_swap : MethodName := ⟨RX9, "swap", "(I)I"⟩
abbrev cX9_swapped : ByteArray := prog_1_method_30_code
def yX9_swapped : MethodName := ⟨RX9, "swapped", "(III)J"⟩
abbrev cX9_laySwap : ByteArray := prog_1_method_31_code
def yX9_laySwap : MethodName := ⟨RX9, "laySwap", "()I"⟩
abbrev cX9_startB : ByteArray := prog_1_method_32_code
def yX9_startB : MethodName := ⟨RX9, "startB", "(II)I"⟩
abbrev cX9_blame : ByteArray := prog_1_method_33_code
def yX9_blame : MethodName := ⟨RX9, "blame", "(III)J"⟩
abbrev cX9_keep : ByteArray := prog_1_method_34_code
def yX9_keep : MethodName := ⟨RX9, "keep", "()I"⟩
abbrev cX9_back : ByteArray := prog_1_method_35_code
def yX9_back : MethodName := ⟨RX9, "back", "()I"⟩
abbrev cX9_count : ByteArray := prog_1_method_36_code
def yX9_count : MethodName := ⟨RX9, "count", "(I)I"⟩
abbrev cX9_isOutside : ByteArray := prog_1_method_37_code
def yX9_isOutside : MethodName := ⟨RX9, "isOutside", "(III)Z"⟩
abbrev cX9_isNoItem : ByteArray := prog_1_method_38_code
def yX9_isNoItem : MethodName := ⟨RX9, "isNoItem", "(I)Z"⟩
abbrev cX9_isNoStore : ByteArray := prog_1_method_39_code
def yX9_isNoStore : MethodName := ⟨RX9, "isNoStore", "(I)Z"⟩
abbrev cX9_isNoGate : ByteArray := prog_1_method_40_code
def yX9_isNoGate : MethodName := ⟨RX9, "isNoGate", "(I)Z"⟩
abbrev cX9_isNoGauge : ByteArray := prog_1_method_41_code
def yX9_isNoGauge : MethodName := ⟨RX9, "isNoGauge", "(I)Z"⟩
abbrev cX9_isNoKnob : ByteArray := prog_1_method_42_code
def yX9_isNoKnob : MethodName := ⟨RX9, "isNoKnob", "(I)Z"⟩
abbrev cX9_isNoWorld : ByteArray := prog_1_method_43_code
def yX9_isNoWorld : MethodName := ⟨RX9, "isNoWorld", "(I)Z"⟩
abbrev cX9_lacksItem : ByteArray := prog_1_method_44_code
def yX9_lacksItem : MethodName := ⟨RX9, "lacksItem", "(I)Z"⟩
abbrev cX9_lacksStore : ByteArray := prog_1_method_45_code
def yX9_lacksStore : MethodName := ⟨RX9, "lacksStore", "(I)Z"⟩
abbrev cX9_lacksGate : ByteArray := prog_1_method_46_code
def yX9_lacksGate : MethodName := ⟨RX9, "lacksGate", "(I)Z"⟩
abbrev cX9_lacksGauge : ByteArray := prog_1_method_47_code
def yX9_lacksGauge : MethodName := ⟨RX9, "lacksGauge", "(I)Z"⟩
abbrev cX9_isBeyond : ByteArray := prog_1_method_48_code
def yX9_isBeyond : MethodName := ⟨RX9, "isBeyond", "(I)Z"⟩
abbrev cX9_draftBecomesModel : ByteArray := prog_1_method_49_code
def yX9_draftBecomesModel : MethodName := ⟨RX9, "draftBecomesModel", "()V"⟩
abbrev cX9_pointHolds : ByteArray := prog_1_method_50_code
def yX9_pointHolds : MethodName := ⟨RX9, "pointHolds", "(I)Z"⟩
abbrev cX9_holdingPoint : ByteArray := prog_1_method_51_code
def yX9_holdingPoint : MethodName := ⟨RX9, "holdingPoint", "(I)I"⟩
abbrev cX9_peakAhead : ByteArray := prog_1_method_52_code
def yX9_peakAhead : MethodName := ⟨RX9, "peakAhead", "(III)J"⟩
abbrev cX9_weightAbove : ByteArray := prog_1_method_53_code
def yX9_weightAbove : MethodName := ⟨RX9, "weightAbove", "(IIJ)I"⟩
abbrev cX9_changedReading : ByteArray := prog_1_method_54_code
def yX9_changedReading : MethodName := ⟨RX9, "changedReading", "(III)J"⟩
def RX10 : String := "RiverModelModel"
def TX10 : u_T := fun k => match k with
  | 0 => ("RiverModelModel", "length", "I", false)
  | 1 => ("RiverModelModel", "text", "[I", true)
  | 2 => ("RiverModelModel", "isBuilt", "Z", false)
  | 3 => ("RiverModelModel", "items", "I", false)
  | 4 => ("RiverModelModel", "kind", "[I", true)
  | 5 => ("RiverModelModel", "first", "[I", true)
  | 6 => ("RiverModelModel", "second", "[I", true)
  | 7 => ("RiverModelModel", "number", "[I", true)
  | 8 => ("RiverModelModel", "isSwapped", "Z", false)
  | 9 => ("RiverModelModel", "weather", "[I", true)
  | 10 => ("RiverModelModel", "m", "[J", true)
  | 11 => ("RiverModelModel", "aside", "[J", true)
  | 12 => ("RiverModelModel", "kept", "[J", true)
  | 13 => ("RiverModelModel", "keptMany", "I", false)
  | 14 => ("RiverModelModel", "gaugeKind", "[I", true)
  | 15 => ("RiverModelModel", "gaugeAt", "[I", true)
  | 16 => ("RiverModelModel", "seen", "[I", true)
  | 17 => ("RiverModelModel", "ends", "I", false)
  | 18 => ("RiverModelModel", "knobItem", "[I", true)
  | 19 => ("RiverModelModel", "knobAt", "[I", true)
  | 20 => ("RiverModelModel", "knobFrom", "[I", true)
  | 21 => ("RiverModelModel", "knobStep", "[I", true)
  | 22 => ("RiverModelModel", "knobMany", "[I", true)
  | 23 => ("RiverModelModel", "weight", "[I", true)
  | 24 => ("RiverModelModel", "ahead", "[I", true)
  | 25 => ("RiverModelModel", "booked", "[I", true)
  | 26 => ("RiverModelModel", "startB", "[I", true)
  | 27 => ("RiverModelModel", "end", "I", false)
  | 28 => ("RiverModelModel", "readKind", "I", false)
  | 29 => ("RiverModelModel", "readFirst", "I", false)
  | 30 => ("RiverModelModel", "readSecond", "I", false)
  | 31 => ("RiverModelModel", "figures", "I", false)
  | 32 => ("RiverModelModel", "readNumber", "[I", true)
  | 33 => ("RiverModelModel", "readItems", "I", false)
  | 34 => ("RiverModelModel", "point", "I", false)
  | _ => ("RiverModelModel", "own", "[J", true)
def tyX10 : Nat → FieldType := fun k => match k with
  | 0 => .int
  | 1 => .array .int
  | 2 => .boolean
  | 3 => .int
  | 4 => .array .int
  | 5 => .array .int
  | 6 => .array .int
  | 7 => .array .int
  | 8 => .boolean
  | 9 => .array .int
  | 10 => .array .long
  | 11 => .array .long
  | 12 => .array .long
  | 13 => .int
  | 14 => .array .int
  | 15 => .array .int
  | 16 => .array .int
  | 17 => .int
  | 18 => .array .int
  | 19 => .array .int
  | 20 => .array .int
  | 21 => .array .int
  | 22 => .array .int
  | 23 => .array .int
  | 24 => .array .int
  | 25 => .array .int
  | 26 => .array .int
  | 27 => .int
  | 28 => .int
  | 29 => .int
  | 30 => .int
  | 31 => .int
  | 32 => .array .int
  | 33 => .int
  | 34 => .int
  | _ => .array .long
abbrev wsX100 : List Cond := u_ws RX10 TX10 36
theorem nmX10 : ∀ a, a < 36 → ∀ b, b < 36 → a ≠ b → (TX10 a).2.1 ≠ (TX10 b).2.1 := by decide +kernel
theorem tyX10_ok : ∀ k, k < 36 → parseFieldDescriptor (TX10 k).2.2.1 = some (tyX10 k) := by decide +kernel
abbrev cX10_init : ByteArray := prog_12_method_1_code
def yX10_init : MethodName := ⟨RX10, "<init>", "()V"⟩
abbrev cX10_in : ByteArray := prog_12_method_2_code
def yX10_in : MethodName := ⟨RX10, "in", "(JJJ)Z"⟩
abbrev cX10_forgets : ByteArray := prog_12_method_3_code
def yX10_forgets : MethodName := ⟨RX10, "forgets", "()V"⟩
abbrev cX10_write : ByteArray := prog_12_method_4_code
def yX10_write : MethodName := ⟨RX10, "write", "(IJ)I"⟩
abbrev cX10_clear : ByteArray := prog_12_method_5_code
def yX10_clear : MethodName := ⟨RX10, "clear", "()I"⟩
abbrev cX10_byteAt : ByteArray := prog_12_method_6_code
def yX10_byteAt : MethodName := ⟨RX10, "byteAt", "(I)I"⟩
abbrev cX10_isName : ByteArray := prog_12_method_7_code
def yX10_isName : MethodName := ⟨RX10, "isName", "(I)Z"⟩
abbrev cX10_shape : ByteArray := prog_12_method_8_code
def yX10_shape : MethodName := ⟨RX10, "shape", "(I)I"⟩
abbrev cX10_areWell : ByteArray := prog_12_method_9_code
def yX10_areWell : MethodName := ⟨RX10, "areWell", "(IIII)Z"⟩
abbrev cX10_readsNumber : ByteArray := prog_12_method_10_code
def yX10_readsNumber : MethodName := ⟨RX10, "readsNumber", "(I)Z"⟩
abbrev cX10_readsItem : ByteArray := prog_12_method_11_code
def yX10_readsItem : MethodName := ⟨RX10, "readsItem", "(III)Z"⟩
abbrev cX10_lays : ByteArray := prog_12_method_12_code
def yX10_lays : MethodName := ⟨RX10, "lays", "(II)V"⟩
abbrev cX10_faultOf : ByteArray := prog_12_method_13_code
def yX10_faultOf : MethodName := ⟨RX10, "faultOf", "()I"⟩
abbrev cX10_fault : ByteArray := prog_12_method_14_code
def yX10_fault : MethodName := ⟨RX10, "fault", "()I"⟩
abbrev cX10_copies : ByteArray := prog_12_method_15_code
def yX10_copies : MethodName := ⟨RX10, "copies", "(II)V"⟩
abbrev cX10_storeAt : ByteArray := prog_12_method_16_code
def yX10_storeAt : MethodName := ⟨RX10, "storeAt", "(II)I"⟩
abbrev cX10_isStore : ByteArray := prog_12_method_17_code
def yX10_isStore : MethodName := ⟨RX10, "isStore", "(I)Z"⟩
abbrev cX10_startOf : ByteArray := prog_12_method_18_code
def yX10_startOf : MethodName := ⟨RX10, "startOf", "(II)I"⟩
abbrev cX10_becomes : ByteArray := prog_12_method_19_code
def yX10_becomes : MethodName := ⟨RX10, "becomes", "(I)V"⟩
abbrev cX10_build : ByteArray := prog_12_method_20_code
def yX10_build : MethodName := ⟨RX10, "build", "()I"⟩
abbrev cX10_item : ByteArray := prog_12_method_21_code
def yX10_item : MethodName := ⟨RX10, "item", "(II)I"⟩
abbrev cX10_weather : ByteArray := prog_12_method_22_code
def yX10_weather : MethodName := ⟨RX10, "weather", "(IIII)I"⟩
abbrev cX10_begins : ByteArray := prog_12_method_23_code
def yX10_begins : MethodName := ⟨RX10, "begins", "(IZ)V"⟩
abbrev cX10_most : ByteArray := prog_12_method_24_code
def yX10_most : MethodName := ⟨RX10, "most", "(IJ)J"⟩
abbrev cX10_moves : ByteArray := prog_12_method_25_code
def yX10_moves : MethodName := ⟨RX10, "moves", "(IIII)J"⟩
abbrev cX10_capacity : ByteArray := prog_12_method_26_code
def yX10_capacity : MethodName := ⟨RX10, "capacity", "(I)J"⟩
abbrev cX10_passes : ByteArray := prog_12_method_27_code
def yX10_passes : MethodName := ⟨RX10, "passes", "(III)V"⟩
abbrev cX10_goes : ByteArray := prog_12_method_28_code
def yX10_goes : MethodName := ⟨RX10, "goes", "(II)V"⟩
abbrev cX10_asides : ByteArray := prog_12_method_29_code
def yX10_asides : MethodName := ⟨RX10, "asides", "()V"⟩
abbrev cX10_returns : ByteArray := prog_12_method_30_code
def yX10_returns : MethodName := ⟨RX10, "returns", "()V"⟩
abbrev cX10_anew : ByteArray := prog_12_method_31_code
def yX10_anew : MethodName := ⟨RX10, "anew", "()I"⟩
abbrev cX10_run : ByteArray := prog_12_method_32_code
def yX10_run : MethodName := ⟨RX10, "run", "(I)I"⟩
abbrev cX10_wayTo : ByteArray := prog_12_method_33_code
def yX10_wayTo : MethodName := ⟨RX10, "wayTo", "(I)J"⟩
abbrev cX10_has : ByteArray := prog_12_method_34_code
def yX10_has : MethodName := ⟨RX10, "has", "(II)J"⟩
abbrev cX10_flow : ByteArray := prog_12_method_35_code
def yX10_flow : MethodName := ⟨RX10, "flow", "(I)J"⟩
abbrev cX10_ofKind : ByteArray := prog_12_method_36_code
def yX10_ofKind : MethodName := ⟨RX10, "ofKind", "(I)I"⟩
abbrev cX10_gate : ByteArray := prog_12_method_37_code
def yX10_gate : MethodName := ⟨RX10, "gate", "(II)I"⟩
abbrev cX10_book : ByteArray := prog_12_method_38_code
def yX10_book : MethodName := ⟨RX10, "book", "(I)J"⟩
abbrev cX10_gauge : ByteArray := prog_12_method_39_code
def yX10_gauge : MethodName := ⟨RX10, "gauge", "(III)I"⟩
abbrev cX10_isSet : ByteArray := prog_12_method_40_code
def yX10_isSet : MethodName := ⟨RX10, "isSet", "(I)Z"⟩
abbrev cX10_reading : ByteArray := prog_12_method_41_code
def yX10_reading : MethodName := ⟨RX10, "reading", "(I)J"⟩
abbrev cX10_reads : ByteArray := prog_12_method_42_code
def yX10_reads : MethodName := ⟨RX10, "reads", "(I)J"⟩
abbrev cX10_see : ByteArray := prog_12_method_43_code
def yX10_see : MethodName := ⟨RX10, "see", "(III)I"⟩
abbrev cX10_ends : ByteArray := prog_12_method_44_code
def yX10_ends : MethodName := ⟨RX10, "ends", "(I)I"⟩
abbrev cX10_knob : ByteArray := prog_12_method_45_code
def yX10_knob : MethodName := ⟨RX10, "knob", "(IIIIII)I"⟩
abbrev cX10_knobs : ByteArray := prog_12_method_46_code
def yX10_knobs : MethodName := ⟨RX10, "knobs", "(I)I"⟩
abbrev cX10_knobValue : ByteArray := prog_12_method_47_code
def yX10_knobValue : MethodName := ⟨RX10, "knobValue", "(II)I"⟩
abbrev cX10_lastSeen : ByteArray := prog_12_method_48_code
def yX10_lastSeen : MethodName := ⟨RX10, "lastSeen", "()I"⟩
abbrev cX10_holds : ByteArray := prog_12_method_49_code
def yX10_holds : MethodName := ⟨RX10, "holds", "(I)Z"⟩
abbrev cX10_fitsTo : ByteArray := prog_12_method_50_code
def yX10_fitsTo : MethodName := ⟨RX10, "fitsTo", "(I)I"⟩
abbrev cX10_fits : ByteArray := prog_12_method_51_code
def yX10_fits : MethodName := ⟨RX10, "fits", "()I"⟩
abbrev cX10_fit : ByteArray := prog_12_method_52_code
def yX10_fit : MethodName := ⟨RX10, "fit", "(II)I"⟩
abbrev cX10_take : ByteArray := prog_12_method_53_code
def yX10_take : MethodName := ⟨RX10, "take", "(I)I"⟩
abbrev cX10_weigh : ByteArray := prog_12_method_54_code
def yX10_weigh : MethodName := ⟨RX10, "weigh", "(II)I"⟩
abbrev cX10_rain : ByteArray := prog_12_method_55_code
def yX10_rain : MethodName := ⟨RX10, "rain", "(III)I"⟩
abbrev cX10_peakBy : ByteArray := prog_12_method_56_code
def yX10_peakBy : MethodName := ⟨RX10, "peakBy", "(III)J"⟩
abbrev cX10_canSee : ByteArray := prog_12_method_57_code
def yX10_canSee : MethodName := ⟨RX10, "canSee", "(II)Z"⟩
abbrev cX10_chanceOf : ByteArray := prog_12_method_58_code
def yX10_chanceOf : MethodName := ⟨RX10, "chanceOf", "(IIJ)I"⟩
abbrev cX10_chance : ByteArray := prog_12_method_59_code
def yX10_chance : MethodName := ⟨RX10, "chance", "(IIJ)I"⟩
abbrev cX10_warn : ByteArray := prog_12_method_60_code
def yX10_warn : MethodName := ⟨RX10, "warn", "(IIJI)I"⟩
abbrev cX10_booked : ByteArray := prog_12_method_61_code
def yX10_booked : MethodName := ⟨RX10, "booked", "(I)I"⟩
abbrev cX10_peak : ByteArray := prog_12_method_62_code
def yX10_peak : MethodName := ⟨RX10, "peak", "(III)J"⟩
abbrev cX10_byOpenings : ByteArray := prog_12_method_63_code
def yX10_byOpenings : MethodName := ⟨RX10, "byOpenings", "(IIIIJI)J"⟩
abbrev cX10_best : ByteArray := prog_12_method_64_code
def yX10_best : MethodName := ⟨RX10, "best", "(IIIIJI)J"⟩
abbrev cX10_swap : ByteArray := prog_12_method_65_code
def yX10_swap : MethodName := ⟨RX10, "swap", "(I)I"⟩
abbrev cX10_swapped : ByteArray := prog_12_method_66_code
def yX10_swapped : MethodName := ⟨RX10, "swapped", "(III)J"⟩
abbrev cX10_laySwap : ByteArray := prog_12_method_67_code
def yX10_laySwap : MethodName := ⟨RX10, "laySwap", "()I"⟩
abbrev cX10_startB : ByteArray := prog_12_method_68_code
def yX10_startB : MethodName := ⟨RX10, "startB", "(II)I"⟩
abbrev cX10_trial : ByteArray := prog_12_method_69_code
def yX10_trial : MethodName := ⟨RX10, "trial", "(IIZII)J"⟩
abbrev cX10_blame : ByteArray := prog_12_method_70_code
def yX10_blame : MethodName := ⟨RX10, "blame", "(III)J"⟩
abbrev cX10_keep : ByteArray := prog_12_method_71_code
def yX10_keep : MethodName := ⟨RX10, "keep", "()I"⟩
abbrev cX10_back : ByteArray := prog_12_method_72_code
def yX10_back : MethodName := ⟨RX10, "back", "()I"⟩
abbrev cX10_count : ByteArray := prog_12_method_73_code
def yX10_count : MethodName := ⟨RX10, "count", "(I)I"⟩
def RJ9 : String := "java/lang/Math"
def TJ9 : u_T := fun k => match k with
  | _ => ("", "", "", false)
def tyJ9 : Nat → FieldType := fun k => match k with
  | _ => .int
abbrev wsJ90 : List Cond := u_ws RJ9 TJ9 0
theorem nmJ9 : ∀ a, a < 0 → ∀ b, b < 0 → a ≠ b → (TJ9 a).2.1 ≠ (TJ9 b).2.1 := by decide +kernel
theorem tyJ9_ok : ∀ k, k < 0 → parseFieldDescriptor (TJ9 k).2.2.1 = some (tyJ9 k) := by decide +kernel
abbrev cJ9_abs_067f4 : ByteArray := prog_13_method_61_code
def yJ9_abs_067f4 : MethodName := ⟨RJ9, "abs", "(J)J"⟩
abbrev cJ9_max_7cf53 : ByteArray := prog_13_method_65_code
def yJ9_max_7cf53 : MethodName := ⟨RJ9, "max", "(II)I"⟩
abbrev cJ9_max_f86c9 : ByteArray := prog_13_method_66_code
def yJ9_max_f86c9 : MethodName := ⟨RJ9, "max", "(JJ)J"⟩
abbrev cJ9_min_f86c9 : ByteArray := prog_13_method_70_code
def yJ9_min_f86c9 : MethodName := ⟨RJ9, "min", "(JJ)J"⟩
def RJ10 : String := "java/lang/System"
def TJ10 : u_T := fun k => match k with
  | _ => ("", "", "", false)
def tyJ10 : Nat → FieldType := fun k => match k with
  | _ => .int
abbrev wsJ100 : List Cond := u_ws RJ10 TJ10 0
theorem nmJ10 : ∀ a, a < 0 → ∀ b, b < 0 → a ≠ b → (TJ10 a).2.1 ≠ (TJ10 b).2.1 := by decide +kernel
theorem tyJ10_ok : ∀ k, k < 0 → parseFieldDescriptor (TJ10 k).2.2.1 = some (tyJ10 k) := by decide +kernel
def RJ7 : String := "java/util/Arrays"
def TJ7 : u_T := fun k => match k with
  | _ => ("", "", "", false)
def tyJ7 : Nat → FieldType := fun k => match k with
  | _ => .int
abbrev wsJ70 : List Cond := u_ws RJ7 TJ7 0
theorem nmJ7 : ∀ a, a < 0 → ∀ b, b < 0 → a ≠ b → (TJ7 a).2.1 ≠ (TJ7 b).2.1 := by decide +kernel
theorem tyJ7_ok : ∀ k, k < 0 → parseFieldDescriptor (TJ7 k).2.2.1 = some (tyJ7 k) := by decide +kernel
abbrev cJ7_fill_d0a16 : ByteArray := prog_15_method_101_code
def yJ7_fill_d0a16 : MethodName := ⟨RJ7, "fill", "([JJ)V"⟩
abbrev cJ7_fill_53178 : ByteArray := prog_15_method_103_code
def yJ7_fill_53178 : MethodName := ⟨RJ7, "fill", "([II)V"⟩
def RL : String := "RiverModelLaw"
abbrev cL_law : ByteArray := code
def yL_law : MethodName := ⟨RL, "law", "([I)Z"⟩
def wsX0_init : List Cond := .code yX0_init cX0_init 1 none :: ([.methodLink RX0 3 objectInit, .instanceMethod objectInit, .code objectInit ⟨#[0xb1]⟩ 1 none, .arrayClass .long, .fieldLink RX0 9 "RiverModel$Course" "held" "[J", .fieldLink RX0 15 "RiverModel$Course" "moved" "[J", .arrayClass .int, .fieldLink RX0 18 "RiverModel$Course" "openings" "[I", .fieldLink RX0 22 "RiverModel$Course" "due" "[J", .fieldLink RX0 25 "RiverModel$Course" "rained" "J", .fieldLink RX0 29 "RiverModel$Course" "air" "J", .fieldLink RX0 32 "RiverModel$Course" "sea" "J", .fieldLink RX0 35 "RiverModel$Course" "hours" "I"] ++ wsX00)
def wsX4_hasStore : List Cond := .code yX4_hasStore cX4_hasStore 2 (some .boolean) :: ([.fieldLink RX4 15 "RiverModel$Model" "storeItems" "[I"] ++ wsX40)
def wsX4_cell : List Cond := .code yX4_cell cX4_cell 3 (some .int) :: ([.fieldLink RX4 9 "RiverModel$Model" "cells" "[I"] ++ wsX40)
def wsX4_startOf : List Cond := .code yX4_startOf cX4_startOf 2 (some .int) :: ([.fieldLink RX4 15 "RiverModel$Model" "storeItems" "[I", .methodLink RX4 66 yX4_hasStore, .instanceMethod yX4_hasStore, .selects RX4 yX4_hasStore yX4_hasStore, .initialized RX4, .code yX4_hasStore cX4_hasStore 2 (some .boolean), .methodLink RX4 73 yX4_cell, .instanceMethod yX4_cell, .selects RX4 yX4_cell yX4_cell, .code yX4_cell cX4_cell 3 (some .int), .fieldLink RX4 9 "RiverModel$Model" "cells" "[I"] ++ wsX40)
def wsJ7_fill_d0a16 : List Cond := .code yJ7_fill_d0a16 cJ7_fill_d0a16 5 none :: ([])
def wsJ7_fill_53178 : List Cond := .code yJ7_fill_53178 cJ7_fill_53178 4 none :: ([])
def wsX0_begin_r1 : List Cond := [Cond.fieldLink RX0 9 "RiverModel$Course" "held" "[J", Cond.fieldLink RX0 15 "RiverModel$Course" "moved" "[J", Cond.fieldLink RX0 18 "RiverModel$Course" "openings" "[I", Cond.fieldLink RX0 22 "RiverModel$Course" "due" "[J", Cond.fieldLink RX0 25 "RiverModel$Course" "rained" "J", Cond.fieldLink RX0 29 "RiverModel$Course" "air" "J", Cond.fieldLink RX0 32 "RiverModel$Course" "sea" "J", Cond.fieldLink RX0 35 "RiverModel$Course" "hours" "I", Cond.methodLink RX0 39 yX4_startOf, Cond.instanceMethod yX4_startOf, Cond.selects RX4 yX4_startOf yX4_startOf, Cond.initialized RX4, Cond.code yX4_startOf cX4_startOf 2 (some .int), Cond.fieldLink RX4 15 "RiverModel$Model" "storeItems" "[I", Cond.methodLink RX4 66 yX4_hasStore, Cond.instanceMethod yX4_hasStore, Cond.selects RX4 yX4_hasStore yX4_hasStore, Cond.code yX4_hasStore cX4_hasStore 2 (some .boolean), Cond.methodLink RX4 73 yX4_cell, Cond.instanceMethod yX4_cell, Cond.selects RX4 yX4_cell yX4_cell, Cond.code yX4_cell cX4_cell 3 (some .int), Cond.fieldLink RX4 9 "RiverModel$Model" "cells" "[I", Cond.methodLink RX0 45 yJ7_fill_d0a16]
def wsX0_begin_r2 : List Cond := [Cond.static yJ7_fill_d0a16, Cond.initialized RJ7, Cond.code yJ7_fill_d0a16 cJ7_fill_d0a16 5 none, Cond.methodLink RX0 51 yJ7_fill_53178, Cond.static yJ7_fill_53178, Cond.code yJ7_fill_53178 cJ7_fill_53178 4 none]
def wsX0_begin : List Cond := .code yX0_begin cX0_begin 3 none :: ((wsX0_begin_r1 ++ wsX0_begin_r2) ++ wsX00 ++ wsX40)
def wsX0_startFrom : List Cond := .code yX0_startFrom cX0_startFrom 3 none :: ([.fieldLink RX0 9 "RiverModel$Course" "held" "[J"] ++ wsX00)
def wsX0_copyFrom : List Cond := .code yX0_copyFrom cX0_copyFrom 2 none :: ([.fieldLink RX0 9 "RiverModel$Course" "held" "[J", .methodLink RX0 54 arraycopyName, .native arraycopyName, .static arraycopyName, .initialized "java/lang/System", .fieldLink RX0 15 "RiverModel$Course" "moved" "[J", .fieldLink RX0 18 "RiverModel$Course" "openings" "[I", .fieldLink RX0 22 "RiverModel$Course" "due" "[J", .fieldLink RX0 25 "RiverModel$Course" "rained" "J", .fieldLink RX0 29 "RiverModel$Course" "air" "J", .fieldLink RX0 32 "RiverModel$Course" "sea" "J", .fieldLink RX0 35 "RiverModel$Course" "hours" "I"] ++ wsX00)
def wsX9_isOutside : List Cond := .code yX9_isOutside cX9_isOutside 3 (some .boolean) :: ([])
def wsX6_rainIn : List Cond := .code yX6_rainIn cX6_rainIn 2 (some .int) :: ([.fieldLink RX6 9 "RiverModel$Sky" "rains" "[I", .static yX9_isOutside, .initialized RX9, .code yX9_isOutside cX9_isOutside 3 (some .boolean)] ++ wsX60)
def wsX6_tempIn : List Cond := .code yX6_tempIn cX6_tempIn 2 (some .int) :: ([.fieldLink RX6 15 "RiverModel$Sky" "temps" "[I", .static yX9_isOutside, .initialized RX9, .code yX9_isOutside cX9_isOutside 3 (some .boolean)] ++ wsX60)
def wsX0_bringDue : List Cond := .code yX0_bringDue cX0_bringDue 3 none :: ([.fieldLink RX0 35 "RiverModel$Course" "hours" "I", .fieldLink RX0 9 "RiverModel$Course" "held" "[J", .fieldLink RX0 22 "RiverModel$Course" "due" "[J"] ++ wsX00)
def wsX9_isNoStore : List Cond := .code yX9_isNoStore cX9_isNoStore 1 (some .boolean) :: ([])
def wsX0_leakOf : List Cond := .code yX0_leakOf cX0_leakOf 8 (some .long) :: ([])
def wsX4_capacityOf : List Cond := .code yX4_capacityOf cX4_capacityOf 2 (some .int) :: ([.fieldLink RX4 15 "RiverModel$Model" "storeItems" "[I", .methodLink RX4 66 yX4_hasStore, .instanceMethod yX4_hasStore, .selects RX4 yX4_hasStore yX4_hasStore, .initialized RX4, .code yX4_hasStore cX4_hasStore 2 (some .boolean), .methodLink RX4 73 yX4_cell, .instanceMethod yX4_cell, .selects RX4 yX4_cell yX4_cell, .code yX4_cell cX4_cell 3 (some .int), .fieldLink RX4 9 "RiverModel$Model" "cells" "[I"] ++ wsX40)
def wsX4_gateOf : List Cond := .code yX4_gateOf cX4_gateOf 3 (some .int) :: ([.fieldLink RX4 28 "RiverModel$Model" "gates" "I", .fieldLink RX4 18 "RiverModel$Model" "gateItems" "[I"] ++ wsX40)
def wsX9_isNoGate : List Cond := .code yX9_isNoGate cX9_isNoGate 1 (some .boolean) :: ([])
def wsX0_openingOf : List Cond := .code yX0_openingOf cX0_openingOf 2 (some .long) :: ([.fieldLink RX0 18 "RiverModel$Course" "openings" "[I", .static yX9_isNoGate, .initialized RX9, .code yX9_isNoGate cX9_isNoGate 1 (some .boolean)] ++ wsX00)
def wsX0_amountOf_r1 : List Cond := [Cond.fieldLink RX0 9 "RiverModel$Course" "held" "[J", Cond.methodLink RX0 101 Lib.MathLoose.max_long.x, Cond.static Lib.MathLoose.max_long.x, Cond.initialized "java/lang/Math", Cond.code Lib.MathLoose.max_long.x Lib.MathLoose.max_long.code 4 (some .long), Cond.methodLink RX0 107 Lib.MathLoose.min_long.x, Cond.static Lib.MathLoose.min_long.x, Cond.code Lib.MathLoose.min_long.x Lib.MathLoose.min_long.code 4 (some .long), Cond.constantLong RX0 117 (100), Cond.constantLong RX0 119 (10), Cond.methodLink RX0 86 yX4_cell, Cond.instanceMethod yX4_cell, Cond.selects RX4 yX4_cell yX4_cell, Cond.initialized RX4, Cond.code yX4_cell cX4_cell 3 (some .int), Cond.fieldLink RX4 9 "RiverModel$Model" "cells" "[I", Cond.static yX9_isNoStore, Cond.initialized RX9, Cond.code yX9_isNoStore cX9_isNoStore 1 (some .boolean), Cond.methodLink RX0 94 yX0_leakOf, Cond.static yX0_leakOf, Cond.initialized RX0, Cond.code yX0_leakOf cX0_leakOf 8 (some .long), Cond.methodLink RX0 98 yX4_capacityOf]
def wsX0_amountOf_r2 : List Cond := [Cond.instanceMethod yX4_capacityOf, Cond.selects RX4 yX4_capacityOf yX4_capacityOf, Cond.code yX4_capacityOf cX4_capacityOf 2 (some .int), Cond.fieldLink RX4 15 "RiverModel$Model" "storeItems" "[I", Cond.methodLink RX4 66 yX4_hasStore, Cond.instanceMethod yX4_hasStore, Cond.selects RX4 yX4_hasStore yX4_hasStore, Cond.code yX4_hasStore cX4_hasStore 2 (some .boolean), Cond.methodLink RX4 73 yX4_cell, Cond.methodLink RX0 110 yX4_gateOf, Cond.instanceMethod yX4_gateOf, Cond.selects RX4 yX4_gateOf yX4_gateOf, Cond.code yX4_gateOf cX4_gateOf 3 (some .int), Cond.fieldLink RX4 28 "RiverModel$Model" "gates" "I", Cond.fieldLink RX4 18 "RiverModel$Model" "gateItems" "[I", Cond.methodLink RX0 113 yX0_openingOf, Cond.instanceMethod yX0_openingOf, Cond.selects RX0 yX0_openingOf yX0_openingOf, Cond.code yX0_openingOf cX0_openingOf 2 (some .long), Cond.fieldLink RX0 18 "RiverModel$Course" "openings" "[I", Cond.static yX9_isNoGate, Cond.code yX9_isNoGate cX9_isNoGate 1 (some .boolean)]
def wsX0_amountOf : List Cond := .code yX0_amountOf cX0_amountOf 11 (some .long) :: ((wsX0_amountOf_r1 ++ wsX0_amountOf_r2) ++ wsX00 ++ wsX40)
def wsX0_send : List Cond := .code yX0_send cX0_send 5 none :: ([.fieldLink RX0 22 "RiverModel$Course" "due" "[J", .fieldLink RX0 35 "RiverModel$Course" "hours" "I", .static yX9_isNoStore, .initialized RX9, .code yX9_isNoStore cX9_isNoStore 1 (some .boolean), .static yX9_isOutside, .code yX9_isOutside cX9_isOutside 3 (some .boolean)] ++ wsX00)
def wsX0_move : List Cond := .code yX0_move cX0_move 8 none :: ([.fieldLink RX0 9 "RiverModel$Course" "held" "[J", .fieldLink RX0 25 "RiverModel$Course" "rained" "J", .fieldLink RX0 29 "RiverModel$Course" "air" "J", .fieldLink RX0 32 "RiverModel$Course" "sea" "J", .methodLink RX0 86 yX4_cell, .instanceMethod yX4_cell, .selects RX4 yX4_cell yX4_cell, .initialized RX4, .code yX4_cell cX4_cell 3 (some .int), .fieldLink RX4 9 "RiverModel$Model" "cells" "[I", .static yX9_isNoStore, .initialized RX9, .code yX9_isNoStore cX9_isNoStore 1 (some .boolean), .methodLink RX0 124 yX0_send, .instanceMethod yX0_send, .selects RX0 yX0_send yX0_send, .initialized RX0, .code yX0_send cX0_send 5 none, .fieldLink RX0 22 "RiverModel$Course" "due" "[J", .fieldLink RX0 35 "RiverModel$Course" "hours" "I", .static yX9_isOutside, .code yX9_isOutside cX9_isOutside 3 (some .boolean)] ++ wsX00 ++ wsX40)
def wsX0_goHour_r1 : List Cond := [Cond.fieldLink RX0 75 "RiverModel$Model" "many" "I", Cond.fieldLink RX0 15 "RiverModel$Course" "moved" "[J", Cond.fieldLink RX0 35 "RiverModel$Course" "hours" "I", Cond.methodLink RX0 72 yX0_bringDue, Cond.instanceMethod yX0_bringDue, Cond.selects RX0 yX0_bringDue yX0_bringDue, Cond.initialized RX0, Cond.code yX0_bringDue cX0_bringDue 3 none, Cond.fieldLink RX0 9 "RiverModel$Course" "held" "[J", Cond.fieldLink RX0 22 "RiverModel$Course" "due" "[J", Cond.methodLink RX0 78 yX0_amountOf, Cond.instanceMethod yX0_amountOf, Cond.selects RX0 yX0_amountOf yX0_amountOf, Cond.code yX0_amountOf cX0_amountOf 11 (some .long), Cond.methodLink RX0 101 Lib.MathLoose.max_long.x, Cond.static Lib.MathLoose.max_long.x, Cond.initialized "java/lang/Math", Cond.code Lib.MathLoose.max_long.x Lib.MathLoose.max_long.code 4 (some .long), Cond.methodLink RX0 107 Lib.MathLoose.min_long.x, Cond.static Lib.MathLoose.min_long.x, Cond.code Lib.MathLoose.min_long.x Lib.MathLoose.min_long.code 4 (some .long), Cond.constantLong RX0 117 (100), Cond.constantLong RX0 119 (10), Cond.methodLink RX0 86 yX4_cell]
def wsX0_goHour_r2 : List Cond := [Cond.instanceMethod yX4_cell, Cond.selects RX4 yX4_cell yX4_cell, Cond.initialized RX4, Cond.code yX4_cell cX4_cell 3 (some .int), Cond.fieldLink RX4 9 "RiverModel$Model" "cells" "[I", Cond.static yX9_isNoStore, Cond.initialized RX9, Cond.code yX9_isNoStore cX9_isNoStore 1 (some .boolean), Cond.methodLink RX0 94 yX0_leakOf, Cond.static yX0_leakOf, Cond.code yX0_leakOf cX0_leakOf 8 (some .long), Cond.methodLink RX0 98 yX4_capacityOf, Cond.instanceMethod yX4_capacityOf, Cond.selects RX4 yX4_capacityOf yX4_capacityOf, Cond.code yX4_capacityOf cX4_capacityOf 2 (some .int), Cond.fieldLink RX4 15 "RiverModel$Model" "storeItems" "[I", Cond.methodLink RX4 66 yX4_hasStore, Cond.instanceMethod yX4_hasStore, Cond.selects RX4 yX4_hasStore yX4_hasStore, Cond.code yX4_hasStore cX4_hasStore 2 (some .boolean), Cond.methodLink RX4 73 yX4_cell, Cond.methodLink RX0 110 yX4_gateOf, Cond.instanceMethod yX4_gateOf, Cond.selects RX4 yX4_gateOf yX4_gateOf]
def wsX0_goHour_r3 : List Cond := [Cond.code yX4_gateOf cX4_gateOf 3 (some .int), Cond.fieldLink RX4 28 "RiverModel$Model" "gates" "I", Cond.fieldLink RX4 18 "RiverModel$Model" "gateItems" "[I", Cond.methodLink RX0 113 yX0_openingOf, Cond.instanceMethod yX0_openingOf, Cond.selects RX0 yX0_openingOf yX0_openingOf, Cond.code yX0_openingOf cX0_openingOf 2 (some .long), Cond.fieldLink RX0 18 "RiverModel$Course" "openings" "[I", Cond.static yX9_isNoGate, Cond.code yX9_isNoGate cX9_isNoGate 1 (some .boolean), Cond.methodLink RX0 82 yX0_move, Cond.instanceMethod yX0_move, Cond.selects RX0 yX0_move yX0_move, Cond.code yX0_move cX0_move 8 none, Cond.fieldLink RX0 25 "RiverModel$Course" "rained" "J", Cond.fieldLink RX0 29 "RiverModel$Course" "air" "J", Cond.fieldLink RX0 32 "RiverModel$Course" "sea" "J", Cond.methodLink RX0 124 yX0_send, Cond.instanceMethod yX0_send, Cond.selects RX0 yX0_send yX0_send, Cond.code yX0_send cX0_send 5 none, Cond.static yX9_isOutside, Cond.code yX9_isOutside cX9_isOutside 3 (some .boolean)]
def wsX0_goHour : List Cond := .code yX0_goHour cX0_goHour 7 none :: ((wsX0_goHour_r1 ++ (wsX0_goHour_r2 ++ wsX0_goHour_r3)) ++ wsX40 ++ wsX00)
def wsX0_goHourBy_r1 : List Cond := [Cond.fieldLink RX0 35 "RiverModel$Course" "hours" "I", Cond.methodLink RX0 60 yX6_rainIn, Cond.instanceMethod yX6_rainIn, Cond.selects RX6 yX6_rainIn yX6_rainIn, Cond.initialized RX6, Cond.code yX6_rainIn cX6_rainIn 2 (some .int), Cond.fieldLink RX6 9 "RiverModel$Sky" "rains" "[I", Cond.static yX9_isOutside, Cond.initialized RX9, Cond.code yX9_isOutside cX9_isOutside 3 (some .boolean), Cond.methodLink RX0 65 yX6_tempIn, Cond.instanceMethod yX6_tempIn, Cond.selects RX6 yX6_tempIn yX6_tempIn, Cond.code yX6_tempIn cX6_tempIn 2 (some .int), Cond.fieldLink RX6 15 "RiverModel$Sky" "temps" "[I", Cond.methodLink RX0 68 yX0_goHour, Cond.instanceMethod yX0_goHour, Cond.selects RX0 yX0_goHour yX0_goHour, Cond.initialized RX0, Cond.code yX0_goHour cX0_goHour 7 none, Cond.fieldLink RX0 75 "RiverModel$Model" "many" "I", Cond.fieldLink RX0 15 "RiverModel$Course" "moved" "[J", Cond.methodLink RX0 72 yX0_bringDue, Cond.instanceMethod yX0_bringDue]
def wsX0_goHourBy_r2 : List Cond := [Cond.selects RX0 yX0_bringDue yX0_bringDue, Cond.code yX0_bringDue cX0_bringDue 3 none, Cond.fieldLink RX0 9 "RiverModel$Course" "held" "[J", Cond.fieldLink RX0 22 "RiverModel$Course" "due" "[J", Cond.methodLink RX0 78 yX0_amountOf, Cond.instanceMethod yX0_amountOf, Cond.selects RX0 yX0_amountOf yX0_amountOf, Cond.code yX0_amountOf cX0_amountOf 11 (some .long), Cond.methodLink RX0 101 Lib.MathLoose.max_long.x, Cond.static Lib.MathLoose.max_long.x, Cond.initialized "java/lang/Math", Cond.code Lib.MathLoose.max_long.x Lib.MathLoose.max_long.code 4 (some .long), Cond.methodLink RX0 107 Lib.MathLoose.min_long.x, Cond.static Lib.MathLoose.min_long.x, Cond.code Lib.MathLoose.min_long.x Lib.MathLoose.min_long.code 4 (some .long), Cond.constantLong RX0 117 (100), Cond.constantLong RX0 119 (10), Cond.methodLink RX0 86 yX4_cell, Cond.instanceMethod yX4_cell, Cond.selects RX4 yX4_cell yX4_cell, Cond.initialized RX4, Cond.code yX4_cell cX4_cell 3 (some .int), Cond.fieldLink RX4 9 "RiverModel$Model" "cells" "[I", Cond.static yX9_isNoStore]
def wsX0_goHourBy_r3 : List Cond := [Cond.code yX9_isNoStore cX9_isNoStore 1 (some .boolean), Cond.methodLink RX0 94 yX0_leakOf, Cond.static yX0_leakOf, Cond.code yX0_leakOf cX0_leakOf 8 (some .long), Cond.methodLink RX0 98 yX4_capacityOf, Cond.instanceMethod yX4_capacityOf, Cond.selects RX4 yX4_capacityOf yX4_capacityOf, Cond.code yX4_capacityOf cX4_capacityOf 2 (some .int), Cond.fieldLink RX4 15 "RiverModel$Model" "storeItems" "[I", Cond.methodLink RX4 66 yX4_hasStore, Cond.instanceMethod yX4_hasStore, Cond.selects RX4 yX4_hasStore yX4_hasStore, Cond.code yX4_hasStore cX4_hasStore 2 (some .boolean), Cond.methodLink RX4 73 yX4_cell, Cond.methodLink RX0 110 yX4_gateOf, Cond.instanceMethod yX4_gateOf, Cond.selects RX4 yX4_gateOf yX4_gateOf, Cond.code yX4_gateOf cX4_gateOf 3 (some .int), Cond.fieldLink RX4 28 "RiverModel$Model" "gates" "I", Cond.fieldLink RX4 18 "RiverModel$Model" "gateItems" "[I", Cond.methodLink RX0 113 yX0_openingOf, Cond.instanceMethod yX0_openingOf, Cond.selects RX0 yX0_openingOf yX0_openingOf, Cond.code yX0_openingOf cX0_openingOf 2 (some .long)]
def wsX0_goHourBy_r4 : List Cond := [Cond.fieldLink RX0 18 "RiverModel$Course" "openings" "[I", Cond.static yX9_isNoGate, Cond.code yX9_isNoGate cX9_isNoGate 1 (some .boolean), Cond.methodLink RX0 82 yX0_move, Cond.instanceMethod yX0_move, Cond.selects RX0 yX0_move yX0_move, Cond.code yX0_move cX0_move 8 none, Cond.fieldLink RX0 25 "RiverModel$Course" "rained" "J", Cond.fieldLink RX0 29 "RiverModel$Course" "air" "J", Cond.fieldLink RX0 32 "RiverModel$Course" "sea" "J", Cond.methodLink RX0 124 yX0_send, Cond.instanceMethod yX0_send, Cond.selects RX0 yX0_send yX0_send, Cond.code yX0_send cX0_send 5 none]
def wsX0_goHourBy : List Cond := .code yX0_goHourBy cX0_goHourBy 3 none :: ((wsX0_goHourBy_r1 ++ (wsX0_goHourBy_r2 ++ (wsX0_goHourBy_r3 ++ wsX0_goHourBy_r4))) ++ wsX00 ++ wsX60 ++ wsX40)
def wsX0_heldByAll : List Cond := .code yX0_heldByAll cX0_heldByAll 4 (some .long) :: ([.fieldLink RX0 9 "RiverModel$Course" "held" "[J"] ++ wsX00)
def wsX0_underWayTo : List Cond := .code yX0_underWayTo cX0_underWayTo 5 (some .long) :: ([.fieldLink RX0 22 "RiverModel$Course" "due" "[J", .static yX9_isNoStore, .initialized RX9, .code yX9_isNoStore cX9_isNoStore 1 (some .boolean)] ++ wsX00)
def wsX0_underWayToAll : List Cond := .code yX0_underWayToAll cX0_underWayToAll 4 (some .long) :: ([.fieldLink RX0 22 "RiverModel$Course" "due" "[J"] ++ wsX00)
def wsX1_init : List Cond := .code yX1_init cX1_init 1 none :: ([.methodLink RX1 3 objectInit, .instanceMethod objectInit, .code objectInit ⟨#[0xb1]⟩ 1 none, .arrayClass .int, .fieldLink RX1 9 "RiverModel$Gauges" "whats" "[I", .fieldLink RX1 15 "RiverModel$Gauges" "places" "[I", .fieldLink RX1 18 "RiverModel$Gauges" "seen" "[I", .fieldLink RX1 21 "RiverModel$Gauges" "mayBeOff" "I", .methodLink RX1 25 yJ7_fill_53178, .static yJ7_fill_53178, .initialized RJ7, .code yJ7_fill_53178 cJ7_fill_53178 4 none] ++ wsX10)
def wsX1_unsetAll : List Cond := .code yX1_unsetAll cX1_unsetAll 1 none :: ([.fieldLink RX1 9 "RiverModel$Gauges" "whats" "[I", .fieldLink RX1 18 "RiverModel$Gauges" "seen" "[I", .methodLink RX1 25 yJ7_fill_53178, .static yJ7_fill_53178, .initialized RJ7, .code yJ7_fill_53178 cJ7_fill_53178 4 none] ++ wsX10)
def wsX9_isNoGauge : List Cond := .code yX9_isNoGauge cX9_isNoGauge 1 (some .boolean) :: ([])
def wsX1_set : List Cond := .code yX1_set cX1_set 5 none :: ([.fieldLink RX1 9 "RiverModel$Gauges" "whats" "[I", .fieldLink RX1 15 "RiverModel$Gauges" "places" "[I", .fieldLink RX1 18 "RiverModel$Gauges" "seen" "[I", .static yX9_isNoGauge, .initialized RX9, .code yX9_isNoGauge cX9_isNoGauge 1 (some .boolean)] ++ wsX10)
def wsX1_isSet : List Cond := .code yX1_isSet cX1_isSet 2 (some .boolean) :: ([.fieldLink RX1 9 "RiverModel$Gauges" "whats" "[I"] ++ wsX10)
def wsX9_isNoItem : List Cond := .code yX9_isNoItem cX9_isNoItem 1 (some .boolean) :: ([])
def wsX1_reading : List Cond := .code yX1_reading cX1_reading 4 (some .long) :: ([.fieldLink RX1 15 "RiverModel$Gauges" "places" "[I", .fieldLink RX1 9 "RiverModel$Gauges" "whats" "[I", .fieldLink RX1 41 "RiverModel$Course" "moved" "[J", .fieldLink RX1 50 "RiverModel$Course" "held" "[J", .methodLink RX1 35 yX1_isSet, .instanceMethod yX1_isSet, .selects RX1 yX1_isSet yX1_isSet, .initialized RX1, .code yX1_isSet cX1_isSet 2 (some .boolean), .static yX9_isNoItem, .initialized RX9, .code yX9_isNoItem cX9_isNoItem 1 (some .boolean), .static yX9_isNoStore, .code yX9_isNoStore cX9_isNoStore 1 (some .boolean)] ++ wsX10 ++ wsX00)
def wsX1_putSeen : List Cond := .code yX1_putSeen cX1_putSeen 5 (some .int) :: ([.fieldLink RX1 18 "RiverModel$Gauges" "seen" "[I", .static yX9_isNoGauge, .initialized RX9, .code yX9_isNoGauge cX9_isNoGauge 1 (some .boolean), .static yX9_isOutside, .code yX9_isOutside cX9_isOutside 3 (some .boolean)] ++ wsX10)
def wsX1_agree : List Cond := .code yX1_agree cX1_agree 5 (some .boolean) :: ([.fieldLink RX1 18 "RiverModel$Gauges" "seen" "[I", .methodLink RX1 61 Lib.MathLoose.abs_long.x, .static Lib.MathLoose.abs_long.x, .initialized "java/lang/Math", .code Lib.MathLoose.abs_long.x Lib.MathLoose.abs_long.code 2 (some .long), .fieldLink RX1 21 "RiverModel$Gauges" "mayBeOff" "I", .methodLink RX1 57 yX1_reading, .instanceMethod yX1_reading, .selects RX1 yX1_reading yX1_reading, .initialized RX1, .code yX1_reading cX1_reading 4 (some .long), .fieldLink RX1 15 "RiverModel$Gauges" "places" "[I", .fieldLink RX1 9 "RiverModel$Gauges" "whats" "[I", .fieldLink RX1 41 "RiverModel$Course" "moved" "[J", .fieldLink RX1 50 "RiverModel$Course" "held" "[J", .methodLink RX1 35 yX1_isSet, .instanceMethod yX1_isSet, .selects RX1 yX1_isSet yX1_isSet, .code yX1_isSet cX1_isSet 2 (some .boolean), .static yX9_isNoItem, .initialized RX9, .code yX9_isNoItem cX9_isNoItem 1 (some .boolean), .static yX9_isNoStore, .code yX9_isNoStore cX9_isNoStore 1 (some .boolean)] ++ wsX10 ++ wsX00)
def wsX1_lastSeen : List Cond := .code yX1_lastSeen cX1_lastSeen 3 (some .int) :: ([.fieldLink RX1 18 "RiverModel$Gauges" "seen" "[I", .methodLink RX1 67 Lib.Math.max.name, .static Lib.Math.max.name, .initialized "java/lang/Math", .code Lib.Math.max.name Lib.Math.max.code 2 (some .int)] ++ wsX10)
def wsX1_setMany : List Cond := .code yX1_setMany cX1_setMany 3 (some .int) :: ([.methodLink RX1 35 yX1_isSet, .instanceMethod yX1_isSet, .selects RX1 yX1_isSet yX1_isSet, .initialized RX1, .code yX1_isSet cX1_isSet 2 (some .boolean), .fieldLink RX1 9 "RiverModel$Gauges" "whats" "[I"] ++ wsX10)
def wsX1_seenMany : List Cond := .code yX1_seenMany cX1_seenMany 3 (some .int) :: ([.fieldLink RX1 18 "RiverModel$Gauges" "seen" "[I"] ++ wsX10)
def wsX2_namesOf : List Cond := .code yX2_namesOf cX2_namesOf 1 (some .int) :: ([])
def wsX2_numbersOf : List Cond := .code yX2_numbersOf cX2_numbersOf 1 (some .int) :: ([])
def wsX2_isUpTo : List Cond := .code yX2_isUpTo cX2_isUpTo 2 (some .boolean) :: ([])
def wsX2_areNumbersAsTold : List Cond := .code yX2_areNumbersAsTold cX2_areNumbersAsTold 4 (some .boolean) :: ([.constant RX2 9 (1000000), .methodLink RX2 10 yX2_isUpTo, .static yX2_isUpTo, .initialized RX2, .code yX2_isUpTo cX2_isUpTo 2 (some .boolean)])
def wsX3_init : List Cond := .code yX3_init cX3_init 1 none :: ([.methodLink RX3 3 objectInit, .instanceMethod objectInit, .code objectInit ⟨#[0xb1]⟩ 1 none, .arrayClass .int, .fieldLink RX3 9 "RiverModel$Knobs" "items" "[I", .fieldLink RX3 15 "RiverModel$Knobs" "numbers" "[I", .fieldLink RX3 18 "RiverModel$Knobs" "froms" "[I", .fieldLink RX3 21 "RiverModel$Knobs" "steps" "[I", .fieldLink RX3 24 "RiverModel$Knobs" "manys" "[I"] ++ wsX30)
def wsX3_unsetAll : List Cond := .code yX3_unsetAll cX3_unsetAll 1 none :: ([.fieldLink RX3 24 "RiverModel$Knobs" "manys" "[I", .methodLink RX3 27 yJ7_fill_53178, .static yJ7_fill_53178, .initialized RJ7, .code yJ7_fill_53178 cJ7_fill_53178 4 none] ++ wsX30)
def wsX9_isNoKnob : List Cond := .code yX9_isNoKnob cX9_isNoKnob 1 (some .boolean) :: ([])
def wsX3_set : List Cond := .code yX3_set cX3_set 7 none :: ([.fieldLink RX3 9 "RiverModel$Knobs" "items" "[I", .fieldLink RX3 15 "RiverModel$Knobs" "numbers" "[I", .fieldLink RX3 18 "RiverModel$Knobs" "froms" "[I", .fieldLink RX3 21 "RiverModel$Knobs" "steps" "[I", .fieldLink RX3 24 "RiverModel$Knobs" "manys" "[I", .static yX9_isNoKnob, .initialized RX9, .code yX9_isNoKnob cX9_isNoKnob 1 (some .boolean)] ++ wsX30)
def wsX3_isSet : List Cond := .code yX3_isSet cX3_isSet 2 (some .boolean) :: ([.fieldLink RX3 24 "RiverModel$Knobs" "manys" "[I"] ++ wsX30)
def wsX3_setMany : List Cond := .code yX3_setMany cX3_setMany 1 (some .int) :: ([.methodLink RX3 37 yX3_isSet, .instanceMethod yX3_isSet, .selects RX3 yX3_isSet yX3_isSet, .initialized RX3, .code yX3_isSet cX3_isSet 2 (some .boolean), .fieldLink RX3 24 "RiverModel$Knobs" "manys" "[I"] ++ wsX30)
def wsX3_pointsOf : List Cond := .code yX3_pointsOf cX3_pointsOf 2 (some .int) :: ([.fieldLink RX3 24 "RiverModel$Knobs" "manys" "[I", .methodLink RX3 37 yX3_isSet, .instanceMethod yX3_isSet, .selects RX3 yX3_isSet yX3_isSet, .initialized RX3, .code yX3_isSet cX3_isSet 2 (some .boolean)] ++ wsX30)
def wsX3_points : List Cond := .code yX3_points cX3_points 1 (some .int) :: ([.methodLink RX3 40 yX3_pointsOf, .instanceMethod yX3_pointsOf, .selects RX3 yX3_pointsOf yX3_pointsOf, .initialized RX3, .code yX3_pointsOf cX3_pointsOf 2 (some .int), .fieldLink RX3 24 "RiverModel$Knobs" "manys" "[I", .methodLink RX3 37 yX3_isSet, .instanceMethod yX3_isSet, .selects RX3 yX3_isSet yX3_isSet, .code yX3_isSet cX3_isSet 2 (some .boolean)] ++ wsX30)
def wsX3_numberAt : List Cond := .code yX3_numberAt cX3_numberAt 4 (some .int) :: ([.methodLink RX3 44 Lib.Math.max.name, .static Lib.Math.max.name, .initialized "java/lang/Math", .code Lib.Math.max.name Lib.Math.max.code 2 (some .int), .fieldLink RX3 18 "RiverModel$Knobs" "froms" "[I", .fieldLink RX3 21 "RiverModel$Knobs" "steps" "[I", .static yX9_isNoKnob, .initialized RX9, .code yX9_isNoKnob cX9_isNoKnob 1 (some .boolean), .methodLink RX3 40 yX3_pointsOf, .instanceMethod yX3_pointsOf, .selects RX3 yX3_pointsOf yX3_pointsOf, .initialized RX3, .code yX3_pointsOf cX3_pointsOf 2 (some .int), .fieldLink RX3 24 "RiverModel$Knobs" "manys" "[I", .methodLink RX3 37 yX3_isSet, .instanceMethod yX3_isSet, .selects RX3 yX3_isSet yX3_isSet, .code yX3_isSet cX3_isSet 2 (some .boolean)] ++ wsX30)
def wsX4_hasNumber : List Cond := .code yX4_hasNumber cX4_hasNumber 3 (some .boolean) :: ([.methodLink RX4 73 yX4_cell, .instanceMethod yX4_cell, .selects RX4 yX4_cell yX4_cell, .initialized RX4, .code yX4_cell cX4_cell 3 (some .int), .fieldLink RX4 9 "RiverModel$Model" "cells" "[I", .methodLink RX4 86 yX2_numbersOf, .static yX2_numbersOf, .initialized RX2, .code yX2_numbersOf cX2_numbersOf 1 (some .int)] ++ wsX40)
def wsX4_putCell : List Cond := .code yX4_putCell cX4_putCell 4 none :: ([.fieldLink RX4 9 "RiverModel$Model" "cells" "[I", .static yX9_isNoItem, .initialized RX9, .code yX9_isNoItem cX9_isNoItem 1 (some .boolean), .static yX9_isOutside, .code yX9_isOutside cX9_isOutside 3 (some .boolean)] ++ wsX40)
def wsX4_isItemAsTold : List Cond := .code yX4_isItemAsTold cX4_isItemAsTold 2 (some .boolean) :: ([.methodLink RX4 73 yX4_cell, .instanceMethod yX4_cell, .selects RX4 yX4_cell yX4_cell, .initialized RX4, .code yX4_cell cX4_cell 3 (some .int), .fieldLink RX4 9 "RiverModel$Model" "cells" "[I", .methodLink RX4 77 yX2_areNumbersAsTold, .static yX2_areNumbersAsTold, .initialized RX2, .code yX2_areNumbersAsTold cX2_areNumbersAsTold 4 (some .boolean), .constant RX2 9 (1000000), .methodLink RX2 10 yX2_isUpTo, .static yX2_isUpTo, .code yX2_isUpTo cX2_isUpTo 2 (some .boolean)] ++ wsX40)
def wsX3_lay_r1 : List Cond := [Cond.fieldLink RX3 9 "RiverModel$Knobs" "items" "[I", Cond.fieldLink RX3 15 "RiverModel$Knobs" "numbers" "[I", Cond.methodLink RX3 37 yX3_isSet, Cond.instanceMethod yX3_isSet, Cond.selects RX3 yX3_isSet yX3_isSet, Cond.initialized RX3, Cond.code yX3_isSet cX3_isSet 2 (some .boolean), Cond.fieldLink RX3 24 "RiverModel$Knobs" "manys" "[I", Cond.methodLink RX3 50 yX4_hasNumber, Cond.instanceMethod yX4_hasNumber, Cond.selects RX4 yX4_hasNumber yX4_hasNumber, Cond.initialized RX4, Cond.code yX4_hasNumber cX4_hasNumber 3 (some .boolean), Cond.methodLink RX4 73 yX4_cell, Cond.instanceMethod yX4_cell, Cond.selects RX4 yX4_cell yX4_cell, Cond.code yX4_cell cX4_cell 3 (some .int), Cond.fieldLink RX4 9 "RiverModel$Model" "cells" "[I", Cond.methodLink RX4 86 yX2_numbersOf, Cond.static yX2_numbersOf, Cond.initialized RX2, Cond.code yX2_numbersOf cX2_numbersOf 1 (some .int), Cond.methodLink RX3 56 yX3_numberAt, Cond.instanceMethod yX3_numberAt]
def wsX3_lay_r2 : List Cond := [Cond.selects RX3 yX3_numberAt yX3_numberAt, Cond.code yX3_numberAt cX3_numberAt 4 (some .int), Cond.methodLink RX3 44 Lib.Math.max.name, Cond.static Lib.Math.max.name, Cond.initialized "java/lang/Math", Cond.code Lib.Math.max.name Lib.Math.max.code 2 (some .int), Cond.fieldLink RX3 18 "RiverModel$Knobs" "froms" "[I", Cond.fieldLink RX3 21 "RiverModel$Knobs" "steps" "[I", Cond.static yX9_isNoKnob, Cond.initialized RX9, Cond.code yX9_isNoKnob cX9_isNoKnob 1 (some .boolean), Cond.methodLink RX3 40 yX3_pointsOf, Cond.instanceMethod yX3_pointsOf, Cond.selects RX3 yX3_pointsOf yX3_pointsOf, Cond.code yX3_pointsOf cX3_pointsOf 2 (some .int), Cond.methodLink RX3 59 yX4_putCell, Cond.instanceMethod yX4_putCell, Cond.selects RX4 yX4_putCell yX4_putCell, Cond.code yX4_putCell cX4_putCell 4 none, Cond.static yX9_isNoItem, Cond.code yX9_isNoItem cX9_isNoItem 1 (some .boolean), Cond.static yX9_isOutside, Cond.code yX9_isOutside cX9_isOutside 3 (some .boolean), Cond.methodLink RX3 63 yX4_isItemAsTold]
def wsX3_lay_r3 : List Cond := [Cond.instanceMethod yX4_isItemAsTold, Cond.selects RX4 yX4_isItemAsTold yX4_isItemAsTold, Cond.code yX4_isItemAsTold cX4_isItemAsTold 2 (some .boolean), Cond.methodLink RX4 77 yX2_areNumbersAsTold, Cond.static yX2_areNumbersAsTold, Cond.code yX2_areNumbersAsTold cX2_areNumbersAsTold 4 (some .boolean), Cond.constant RX2 9 (1000000), Cond.methodLink RX2 10 yX2_isUpTo, Cond.static yX2_isUpTo, Cond.code yX2_isUpTo cX2_isUpTo 2 (some .boolean)]
def wsX3_lay : List Cond := .code yX3_lay cX3_lay 4 (some .boolean) :: ((wsX3_lay_r1 ++ (wsX3_lay_r2 ++ wsX3_lay_r3)) ++ wsX30 ++ wsX40)
def wsX4_init : List Cond := .code yX4_init cX4_init 1 none :: ([.methodLink RX4 3 objectInit, .instanceMethod objectInit, .code objectInit ⟨#[0xb1]⟩ 1 none, .arrayClass .int, .fieldLink RX4 9 "RiverModel$Model" "cells" "[I", .fieldLink RX4 15 "RiverModel$Model" "storeItems" "[I", .fieldLink RX4 18 "RiverModel$Model" "gateItems" "[I", .fieldLink RX4 21 "RiverModel$Model" "many" "I", .fieldLink RX4 25 "RiverModel$Model" "stores" "I", .fieldLink RX4 28 "RiverModel$Model" "gates" "I"] ++ wsX40)
def wsX4_empty : List Cond := .code yX4_empty cX4_empty 1 none :: ([.fieldLink RX4 21 "RiverModel$Model" "many" "I", .fieldLink RX4 25 "RiverModel$Model" "stores" "I", .fieldLink RX4 28 "RiverModel$Model" "gates" "I", .fieldLink RX4 15 "RiverModel$Model" "storeItems" "[I", .fieldLink RX4 18 "RiverModel$Model" "gateItems" "[I", .methodLink RX4 31 yJ7_fill_53178, .static yJ7_fill_53178, .initialized RJ7, .code yJ7_fill_53178 cJ7_fill_53178 4 none] ++ wsX40)
def wsX4_copyFrom : List Cond := .code yX4_copyFrom cX4_copyFrom 2 none :: ([.fieldLink RX4 9 "RiverModel$Model" "cells" "[I", .methodLink RX4 37 arraycopyName, .native arraycopyName, .static arraycopyName, .initialized "java/lang/System", .fieldLink RX4 15 "RiverModel$Model" "storeItems" "[I", .fieldLink RX4 18 "RiverModel$Model" "gateItems" "[I", .fieldLink RX4 21 "RiverModel$Model" "many" "I", .fieldLink RX4 25 "RiverModel$Model" "stores" "I", .fieldLink RX4 28 "RiverModel$Model" "gates" "I"] ++ wsX40)
def wsX4_put : List Cond := .code yX4_put cX4_put 4 none :: ([.methodLink RX4 51 yX4_putCell, .instanceMethod yX4_putCell, .selects RX4 yX4_putCell yX4_putCell, .initialized RX4, .code yX4_putCell cX4_putCell 4 none, .fieldLink RX4 9 "RiverModel$Model" "cells" "[I", .static yX9_isNoItem, .initialized RX9, .code yX9_isNoItem cX9_isNoItem 1 (some .boolean), .static yX9_isOutside, .code yX9_isOutside cX9_isOutside 3 (some .boolean)] ++ wsX40)
def wsX4_add : List Cond := .code yX4_add cX4_add 2 none :: ([.fieldLink RX4 21 "RiverModel$Model" "many" "I", .fieldLink RX4 15 "RiverModel$Model" "storeItems" "[I", .fieldLink RX4 25 "RiverModel$Model" "stores" "I", .fieldLink RX4 28 "RiverModel$Model" "gates" "I", .fieldLink RX4 18 "RiverModel$Model" "gateItems" "[I", .methodLink RX4 55 yX4_put, .instanceMethod yX4_put, .selects RX4 yX4_put yX4_put, .initialized RX4, .code yX4_put cX4_put 4 none, .methodLink RX4 51 yX4_putCell, .instanceMethod yX4_putCell, .selects RX4 yX4_putCell yX4_putCell, .code yX4_putCell cX4_putCell 4 none, .fieldLink RX4 9 "RiverModel$Model" "cells" "[I", .static yX9_isNoItem, .initialized RX9, .code yX9_isNoItem cX9_isNoItem 1 (some .boolean), .static yX9_isOutside, .code yX9_isOutside cX9_isOutside 3 (some .boolean), .static yX9_isNoStore, .code yX9_isNoStore cX9_isNoStore 1 (some .boolean)] ++ wsX40)
def wsX4_areNumbersAsTold : List Cond := .code yX4_areNumbersAsTold cX4_areNumbersAsTold 1 (some .boolean) :: ([.methodLink RX4 77 yX2_areNumbersAsTold, .static yX2_areNumbersAsTold, .initialized RX2, .code yX2_areNumbersAsTold cX2_areNumbersAsTold 4 (some .boolean), .constant RX2 9 (1000000), .methodLink RX2 10 yX2_isUpTo, .static yX2_isUpTo, .code yX2_isUpTo cX2_isUpTo 2 (some .boolean)])
def wsX4_isStoreAhead : List Cond := .code yX4_isStoreAhead cX4_isStoreAhead 3 (some .boolean) :: ([.fieldLink RX4 15 "RiverModel$Model" "storeItems" "[I", .methodLink RX4 66 yX4_hasStore, .instanceMethod yX4_hasStore, .selects RX4 yX4_hasStore yX4_hasStore, .initialized RX4, .code yX4_hasStore cX4_hasStore 2 (some .boolean)] ++ wsX40)
def wsX4_areNamesAhead : List Cond := .code yX4_areNamesAhead cX4_areNamesAhead 5 (some .boolean) :: ([.methodLink RX4 82 yX4_isStoreAhead, .instanceMethod yX4_isStoreAhead, .selects RX4 yX4_isStoreAhead yX4_isStoreAhead, .initialized RX4, .code yX4_isStoreAhead cX4_isStoreAhead 3 (some .boolean), .fieldLink RX4 15 "RiverModel$Model" "storeItems" "[I", .methodLink RX4 66 yX4_hasStore, .instanceMethod yX4_hasStore, .selects RX4 yX4_hasStore yX4_hasStore, .code yX4_hasStore cX4_hasStore 2 (some .boolean)] ++ wsX40)
def wsX4_mayFollow_r1 : List Cond := [Cond.fieldLink RX4 21 "RiverModel$Model" "many" "I", Cond.fieldLink RX4 28 "RiverModel$Model" "gates" "I", Cond.methodLink RX4 62 yX4_areNumbersAsTold, Cond.static yX4_areNumbersAsTold, Cond.initialized RX4, Cond.code yX4_areNumbersAsTold cX4_areNumbersAsTold 1 (some .boolean), Cond.methodLink RX4 77 yX2_areNumbersAsTold, Cond.static yX2_areNumbersAsTold, Cond.initialized RX2, Cond.code yX2_areNumbersAsTold cX2_areNumbersAsTold 4 (some .boolean), Cond.constant RX2 9 (1000000), Cond.methodLink RX2 10 yX2_isUpTo, Cond.static yX2_isUpTo, Cond.code yX2_isUpTo cX2_isUpTo 2 (some .boolean), Cond.methodLink RX4 66 yX4_hasStore, Cond.instanceMethod yX4_hasStore, Cond.selects RX4 yX4_hasStore yX4_hasStore, Cond.code yX4_hasStore cX4_hasStore 2 (some .boolean), Cond.fieldLink RX4 15 "RiverModel$Model" "storeItems" "[I", Cond.methodLink RX4 69 yX4_areNamesAhead, Cond.instanceMethod yX4_areNamesAhead, Cond.selects RX4 yX4_areNamesAhead yX4_areNamesAhead, Cond.code yX4_areNamesAhead cX4_areNamesAhead 5 (some .boolean), Cond.methodLink RX4 82 yX4_isStoreAhead]
def wsX4_mayFollow_r2 : List Cond := [Cond.instanceMethod yX4_isStoreAhead, Cond.selects RX4 yX4_isStoreAhead yX4_isStoreAhead, Cond.code yX4_isStoreAhead cX4_isStoreAhead 3 (some .boolean)]
def wsX4_mayFollow : List Cond := .code yX4_mayFollow cX4_mayFollow 2 (some .boolean) :: ((wsX4_mayFollow_r1 ++ wsX4_mayFollow_r2) ++ wsX40)
def wsX4_mayReplace_r1 : List Cond := [Cond.methodLink RX4 73 yX4_cell, Cond.instanceMethod yX4_cell, Cond.selects RX4 yX4_cell yX4_cell, Cond.initialized RX4, Cond.code yX4_cell cX4_cell 3 (some .int), Cond.fieldLink RX4 9 "RiverModel$Model" "cells" "[I", Cond.methodLink RX4 62 yX4_areNumbersAsTold, Cond.static yX4_areNumbersAsTold, Cond.code yX4_areNumbersAsTold cX4_areNumbersAsTold 1 (some .boolean), Cond.methodLink RX4 77 yX2_areNumbersAsTold, Cond.static yX2_areNumbersAsTold, Cond.initialized RX2, Cond.code yX2_areNumbersAsTold cX2_areNumbersAsTold 4 (some .boolean), Cond.constant RX2 9 (1000000), Cond.methodLink RX2 10 yX2_isUpTo, Cond.static yX2_isUpTo, Cond.code yX2_isUpTo cX2_isUpTo 2 (some .boolean), Cond.methodLink RX4 69 yX4_areNamesAhead, Cond.instanceMethod yX4_areNamesAhead, Cond.selects RX4 yX4_areNamesAhead yX4_areNamesAhead, Cond.code yX4_areNamesAhead cX4_areNamesAhead 5 (some .boolean), Cond.methodLink RX4 82 yX4_isStoreAhead, Cond.instanceMethod yX4_isStoreAhead, Cond.selects RX4 yX4_isStoreAhead yX4_isStoreAhead]
def wsX4_mayReplace_r2 : List Cond := [Cond.code yX4_isStoreAhead cX4_isStoreAhead 3 (some .boolean), Cond.fieldLink RX4 15 "RiverModel$Model" "storeItems" "[I", Cond.methodLink RX4 66 yX4_hasStore, Cond.instanceMethod yX4_hasStore, Cond.selects RX4 yX4_hasStore yX4_hasStore, Cond.code yX4_hasStore cX4_hasStore 2 (some .boolean)]
def wsX4_mayReplace : List Cond := .code yX4_mayReplace cX4_mayReplace 4 (some .boolean) :: ((wsX4_mayReplace_r1 ++ wsX4_mayReplace_r2) ++ wsX40)
def wsX4_startOfAll : List Cond := .code yX4_startOfAll cX4_startOfAll 4 (some .long) :: ([.methodLink RX4 90 yX4_startOf, .instanceMethod yX4_startOf, .selects RX4 yX4_startOf yX4_startOf, .initialized RX4, .code yX4_startOf cX4_startOf 2 (some .int), .fieldLink RX4 15 "RiverModel$Model" "storeItems" "[I", .methodLink RX4 66 yX4_hasStore, .instanceMethod yX4_hasStore, .selects RX4 yX4_hasStore yX4_hasStore, .code yX4_hasStore cX4_hasStore 2 (some .boolean), .methodLink RX4 73 yX4_cell, .instanceMethod yX4_cell, .selects RX4 yX4_cell yX4_cell, .code yX4_cell cX4_cell 3 (some .int), .fieldLink RX4 9 "RiverModel$Model" "cells" "[I"] ++ wsX40)
def wsX5_init_r1 : List Cond := [Cond.methodLink RX5 3 objectInit, Cond.instanceMethod objectInit, Cond.code objectInit ⟨#[0xb1]⟩ 1 none, Cond.classLink RX5 9 RX0, Cond.fieldLink RX5 11 "RiverModel$Search" "blockEnds" "[LRiverModel$Course;", Cond.arrayClass .int, Cond.fieldLink RX5 17 "RiverModel$Search" "tried" "[I", Cond.fieldLink RX5 21 "RiverModel$Search" "found" "[I", Cond.fieldLink RX5 24 "RiverModel$Search" "isFound" "Z", Cond.fieldLink RX5 28 "RiverModel$Search" "leastPeak" "J", Cond.fieldLink RX5 32 "RiverModel$Search" "gate" "I", Cond.fieldLink RX5 36 "RiverModel$Search" "blockHours" "I", Cond.fieldLink RX5 39 "RiverModel$Search" "gauge" "I", Cond.fieldLink RX5 42 "RiverModel$Search" "store" "I", Cond.fieldLink RX5 45 "RiverModel$Search" "limit" "J", Cond.instantiable RX0 8, Cond.initialized RX0, Cond.instanceMethod yX0_init, Cond.code yX0_init cX0_init 1 none, Cond.methodLink RX0 3 objectInit, Cond.arrayClass .long, Cond.fieldLink RX0 9 "RiverModel$Course" "held" "[J", Cond.fieldLink RX0 15 "RiverModel$Course" "moved" "[J", Cond.fieldLink RX0 18 "RiverModel$Course" "openings" "[I"]
def wsX5_init_r2 : List Cond := [Cond.fieldLink RX0 22 "RiverModel$Course" "due" "[J", Cond.fieldLink RX0 25 "RiverModel$Course" "rained" "J", Cond.fieldLink RX0 29 "RiverModel$Course" "air" "J", Cond.fieldLink RX0 32 "RiverModel$Course" "sea" "J", Cond.fieldLink RX0 35 "RiverModel$Course" "hours" "I"]
def wsX5_init : List Cond := .code yX5_init cX5_init 2 none :: ((wsX5_init_r1 ++ wsX5_init_r2) ++ wsX50 ++ wsX00)
def wsX5_prepare : List Cond := .code yX5_prepare cX5_prepare 7 none :: ([.fieldLink RX5 32 "RiverModel$Search" "gate" "I", .fieldLink RX5 36 "RiverModel$Search" "blockHours" "I", .fieldLink RX5 39 "RiverModel$Search" "gauge" "I", .fieldLink RX5 42 "RiverModel$Search" "store" "I", .fieldLink RX5 45 "RiverModel$Search" "limit" "J", .fieldLink RX5 24 "RiverModel$Search" "isFound" "Z"] ++ wsX50)
def wsX5_peakOfBlock_r1 : List Cond := [Cond.fieldLink RX5 32 "RiverModel$Search" "gate" "I", Cond.fieldLink RX5 42 "RiverModel$Search" "store" "I", Cond.constantLong RX5 61 (-1), Cond.fieldLink RX5 78 "RiverModel$Course" "openings" "[I", Cond.fieldLink RX5 36 "RiverModel$Search" "blockHours" "I", Cond.fieldLink RX5 81 "RiverModel$Course" "hours" "I", Cond.fieldLink RX5 97 "RiverModel$Course" "held" "[J", Cond.fieldLink RX5 45 "RiverModel$Search" "limit" "J", Cond.fieldLink RX5 39 "RiverModel$Search" "gauge" "I", Cond.methodLink RX5 107 Lib.MathLoose.max_long.x, Cond.static Lib.MathLoose.max_long.x, Cond.initialized "java/lang/Math", Cond.code Lib.MathLoose.max_long.x Lib.MathLoose.max_long.code 4 (some .long), Cond.static yX9_isNoGate, Cond.initialized RX9, Cond.code yX9_isNoGate cX9_isNoGate 1 (some .boolean), Cond.static yX9_isNoStore, Cond.code yX9_isNoStore cX9_isNoStore 1 (some .boolean), Cond.methodLink RX5 84 yX6_rainIn, Cond.instanceMethod yX6_rainIn, Cond.selects RX6 yX6_rainIn yX6_rainIn, Cond.initialized RX6, Cond.code yX6_rainIn cX6_rainIn 2 (some .int), Cond.fieldLink RX6 9 "RiverModel$Sky" "rains" "[I"]
def wsX5_peakOfBlock_r2 : List Cond := [Cond.static yX9_isOutside, Cond.code yX9_isOutside cX9_isOutside 3 (some .boolean), Cond.methodLink RX5 90 yX6_tempIn, Cond.instanceMethod yX6_tempIn, Cond.selects RX6 yX6_tempIn yX6_tempIn, Cond.code yX6_tempIn cX6_tempIn 2 (some .int), Cond.fieldLink RX6 15 "RiverModel$Sky" "temps" "[I", Cond.methodLink RX5 93 yX0_goHour, Cond.instanceMethod yX0_goHour, Cond.selects RX0 yX0_goHour yX0_goHour, Cond.initialized RX0, Cond.code yX0_goHour cX0_goHour 7 none, Cond.fieldLink RX0 75 "RiverModel$Model" "many" "I", Cond.fieldLink RX0 15 "RiverModel$Course" "moved" "[J", Cond.fieldLink RX0 35 "RiverModel$Course" "hours" "I", Cond.methodLink RX0 72 yX0_bringDue, Cond.instanceMethod yX0_bringDue, Cond.selects RX0 yX0_bringDue yX0_bringDue, Cond.code yX0_bringDue cX0_bringDue 3 none, Cond.fieldLink RX0 9 "RiverModel$Course" "held" "[J", Cond.fieldLink RX0 22 "RiverModel$Course" "due" "[J", Cond.methodLink RX0 78 yX0_amountOf, Cond.instanceMethod yX0_amountOf, Cond.selects RX0 yX0_amountOf yX0_amountOf]
def wsX5_peakOfBlock_r3 : List Cond := [Cond.code yX0_amountOf cX0_amountOf 11 (some .long), Cond.methodLink RX0 101 Lib.MathLoose.max_long.x, Cond.methodLink RX0 107 Lib.MathLoose.min_long.x, Cond.static Lib.MathLoose.min_long.x, Cond.code Lib.MathLoose.min_long.x Lib.MathLoose.min_long.code 4 (some .long), Cond.constantLong RX0 117 (100), Cond.constantLong RX0 119 (10), Cond.methodLink RX0 86 yX4_cell, Cond.instanceMethod yX4_cell, Cond.selects RX4 yX4_cell yX4_cell, Cond.initialized RX4, Cond.code yX4_cell cX4_cell 3 (some .int), Cond.fieldLink RX4 9 "RiverModel$Model" "cells" "[I", Cond.methodLink RX0 94 yX0_leakOf, Cond.static yX0_leakOf, Cond.code yX0_leakOf cX0_leakOf 8 (some .long), Cond.methodLink RX0 98 yX4_capacityOf, Cond.instanceMethod yX4_capacityOf, Cond.selects RX4 yX4_capacityOf yX4_capacityOf, Cond.code yX4_capacityOf cX4_capacityOf 2 (some .int), Cond.fieldLink RX4 15 "RiverModel$Model" "storeItems" "[I", Cond.methodLink RX4 66 yX4_hasStore, Cond.instanceMethod yX4_hasStore, Cond.selects RX4 yX4_hasStore yX4_hasStore]
def wsX5_peakOfBlock_r4 : List Cond := [Cond.code yX4_hasStore cX4_hasStore 2 (some .boolean), Cond.methodLink RX4 73 yX4_cell, Cond.methodLink RX0 110 yX4_gateOf, Cond.instanceMethod yX4_gateOf, Cond.selects RX4 yX4_gateOf yX4_gateOf, Cond.code yX4_gateOf cX4_gateOf 3 (some .int), Cond.fieldLink RX4 28 "RiverModel$Model" "gates" "I", Cond.fieldLink RX4 18 "RiverModel$Model" "gateItems" "[I", Cond.methodLink RX0 113 yX0_openingOf, Cond.instanceMethod yX0_openingOf, Cond.selects RX0 yX0_openingOf yX0_openingOf, Cond.code yX0_openingOf cX0_openingOf 2 (some .long), Cond.fieldLink RX0 18 "RiverModel$Course" "openings" "[I", Cond.methodLink RX0 82 yX0_move, Cond.instanceMethod yX0_move, Cond.selects RX0 yX0_move yX0_move, Cond.code yX0_move cX0_move 8 none, Cond.fieldLink RX0 25 "RiverModel$Course" "rained" "J", Cond.fieldLink RX0 29 "RiverModel$Course" "air" "J", Cond.fieldLink RX0 32 "RiverModel$Course" "sea" "J", Cond.methodLink RX0 124 yX0_send, Cond.instanceMethod yX0_send, Cond.selects RX0 yX0_send yX0_send, Cond.code yX0_send cX0_send 5 none]
def wsX5_peakOfBlock_r5 : List Cond := [Cond.methodLink RX5 101 yX1_reading, Cond.instanceMethod yX1_reading, Cond.selects RX1 yX1_reading yX1_reading, Cond.initialized RX1, Cond.code yX1_reading cX1_reading 4 (some .long), Cond.fieldLink RX1 15 "RiverModel$Gauges" "places" "[I", Cond.fieldLink RX1 9 "RiverModel$Gauges" "whats" "[I", Cond.fieldLink RX1 41 "RiverModel$Course" "moved" "[J", Cond.fieldLink RX1 50 "RiverModel$Course" "held" "[J", Cond.methodLink RX1 35 yX1_isSet, Cond.instanceMethod yX1_isSet, Cond.selects RX1 yX1_isSet yX1_isSet, Cond.code yX1_isSet cX1_isSet 2 (some .boolean), Cond.static yX9_isNoItem, Cond.code yX9_isNoItem cX9_isNoItem 1 (some .boolean)]
def wsX5_peakOfBlock : List Cond := .code yX5_peakOfBlock cX5_peakOfBlock 11 (some .long) :: ((wsX5_peakOfBlock_r1 ++ (wsX5_peakOfBlock_r2 ++ (wsX5_peakOfBlock_r3 ++ (wsX5_peakOfBlock_r4 ++ wsX5_peakOfBlock_r5)))) ++ wsX50 ++ wsX00 ++ wsX60 ++ wsX40 ++ wsX10)
def wsX5_takeTried : List Cond := .code yX5_takeTried cX5_takeTried 3 none :: ([.fieldLink RX5 24 "RiverModel$Search" "isFound" "Z", .fieldLink RX5 28 "RiverModel$Search" "leastPeak" "J", .fieldLink RX5 17 "RiverModel$Search" "tried" "[I", .fieldLink RX5 21 "RiverModel$Search" "found" "[I", .methodLink RX5 113 arraycopyName, .native arraycopyName, .static arraycopyName, .initialized "java/lang/System"] ++ wsX50)
def wsX5_tryBlock_r1 : List Cond := [Cond.fieldLink RX5 11 "RiverModel$Search" "blockEnds" "[LRiverModel$Course;", Cond.fieldLink RX5 17 "RiverModel$Search" "tried" "[I", Cond.constantLong RX5 61 (-1), Cond.fieldLink RX5 24 "RiverModel$Search" "isFound" "Z", Cond.fieldLink RX5 28 "RiverModel$Search" "leastPeak" "J", Cond.static yX9_isOutside, Cond.initialized RX9, Cond.code yX9_isOutside cX9_isOutside 3 (some .boolean), Cond.methodLink RX5 53 yX0_copyFrom, Cond.instanceMethod yX0_copyFrom, Cond.selects RX0 yX0_copyFrom yX0_copyFrom, Cond.initialized RX0, Cond.code yX0_copyFrom cX0_copyFrom 2 none, Cond.fieldLink RX0 9 "RiverModel$Course" "held" "[J", Cond.methodLink RX0 54 arraycopyName, Cond.native arraycopyName, Cond.static arraycopyName, Cond.initialized "java/lang/System", Cond.fieldLink RX0 15 "RiverModel$Course" "moved" "[J", Cond.fieldLink RX0 18 "RiverModel$Course" "openings" "[I", Cond.fieldLink RX0 22 "RiverModel$Course" "due" "[J", Cond.fieldLink RX0 25 "RiverModel$Course" "rained" "J", Cond.fieldLink RX0 29 "RiverModel$Course" "air" "J", Cond.fieldLink RX0 32 "RiverModel$Course" "sea" "J"]
def wsX5_tryBlock_r2 : List Cond := [Cond.fieldLink RX0 35 "RiverModel$Course" "hours" "I", Cond.methodLink RX5 57 yX5_peakOfBlock, Cond.instanceMethod yX5_peakOfBlock, Cond.selects RX5 yX5_peakOfBlock yX5_peakOfBlock, Cond.initialized RX5, Cond.code yX5_peakOfBlock cX5_peakOfBlock 11 (some .long), Cond.fieldLink RX5 32 "RiverModel$Search" "gate" "I", Cond.fieldLink RX5 42 "RiverModel$Search" "store" "I", Cond.fieldLink RX5 78 "RiverModel$Course" "openings" "[I", Cond.fieldLink RX5 36 "RiverModel$Search" "blockHours" "I", Cond.fieldLink RX5 81 "RiverModel$Course" "hours" "I", Cond.fieldLink RX5 97 "RiverModel$Course" "held" "[J", Cond.fieldLink RX5 45 "RiverModel$Search" "limit" "J", Cond.fieldLink RX5 39 "RiverModel$Search" "gauge" "I", Cond.methodLink RX5 107 Lib.MathLoose.max_long.x, Cond.static Lib.MathLoose.max_long.x, Cond.initialized "java/lang/Math", Cond.code Lib.MathLoose.max_long.x Lib.MathLoose.max_long.code 4 (some .long), Cond.static yX9_isNoGate, Cond.code yX9_isNoGate cX9_isNoGate 1 (some .boolean), Cond.static yX9_isNoStore, Cond.code yX9_isNoStore cX9_isNoStore 1 (some .boolean), Cond.methodLink RX5 84 yX6_rainIn, Cond.instanceMethod yX6_rainIn]
def wsX5_tryBlock_r3 : List Cond := [Cond.selects RX6 yX6_rainIn yX6_rainIn, Cond.initialized RX6, Cond.code yX6_rainIn cX6_rainIn 2 (some .int), Cond.fieldLink RX6 9 "RiverModel$Sky" "rains" "[I", Cond.methodLink RX5 90 yX6_tempIn, Cond.instanceMethod yX6_tempIn, Cond.selects RX6 yX6_tempIn yX6_tempIn, Cond.code yX6_tempIn cX6_tempIn 2 (some .int), Cond.fieldLink RX6 15 "RiverModel$Sky" "temps" "[I", Cond.methodLink RX5 93 yX0_goHour, Cond.instanceMethod yX0_goHour, Cond.selects RX0 yX0_goHour yX0_goHour, Cond.code yX0_goHour cX0_goHour 7 none, Cond.fieldLink RX0 75 "RiverModel$Model" "many" "I", Cond.methodLink RX0 72 yX0_bringDue, Cond.instanceMethod yX0_bringDue, Cond.selects RX0 yX0_bringDue yX0_bringDue, Cond.code yX0_bringDue cX0_bringDue 3 none, Cond.methodLink RX0 78 yX0_amountOf, Cond.instanceMethod yX0_amountOf, Cond.selects RX0 yX0_amountOf yX0_amountOf, Cond.code yX0_amountOf cX0_amountOf 11 (some .long), Cond.methodLink RX0 101 Lib.MathLoose.max_long.x, Cond.methodLink RX0 107 Lib.MathLoose.min_long.x]
def wsX5_tryBlock_r4 : List Cond := [Cond.static Lib.MathLoose.min_long.x, Cond.code Lib.MathLoose.min_long.x Lib.MathLoose.min_long.code 4 (some .long), Cond.constantLong RX0 117 (100), Cond.constantLong RX0 119 (10), Cond.methodLink RX0 86 yX4_cell, Cond.instanceMethod yX4_cell, Cond.selects RX4 yX4_cell yX4_cell, Cond.initialized RX4, Cond.code yX4_cell cX4_cell 3 (some .int), Cond.fieldLink RX4 9 "RiverModel$Model" "cells" "[I", Cond.methodLink RX0 94 yX0_leakOf, Cond.static yX0_leakOf, Cond.code yX0_leakOf cX0_leakOf 8 (some .long), Cond.methodLink RX0 98 yX4_capacityOf, Cond.instanceMethod yX4_capacityOf, Cond.selects RX4 yX4_capacityOf yX4_capacityOf, Cond.code yX4_capacityOf cX4_capacityOf 2 (some .int), Cond.fieldLink RX4 15 "RiverModel$Model" "storeItems" "[I", Cond.methodLink RX4 66 yX4_hasStore, Cond.instanceMethod yX4_hasStore, Cond.selects RX4 yX4_hasStore yX4_hasStore, Cond.code yX4_hasStore cX4_hasStore 2 (some .boolean), Cond.methodLink RX4 73 yX4_cell, Cond.methodLink RX0 110 yX4_gateOf]
def wsX5_tryBlock_r5 : List Cond := [Cond.instanceMethod yX4_gateOf, Cond.selects RX4 yX4_gateOf yX4_gateOf, Cond.code yX4_gateOf cX4_gateOf 3 (some .int), Cond.fieldLink RX4 28 "RiverModel$Model" "gates" "I", Cond.fieldLink RX4 18 "RiverModel$Model" "gateItems" "[I", Cond.methodLink RX0 113 yX0_openingOf, Cond.instanceMethod yX0_openingOf, Cond.selects RX0 yX0_openingOf yX0_openingOf, Cond.code yX0_openingOf cX0_openingOf 2 (some .long), Cond.methodLink RX0 82 yX0_move, Cond.instanceMethod yX0_move, Cond.selects RX0 yX0_move yX0_move, Cond.code yX0_move cX0_move 8 none, Cond.methodLink RX0 124 yX0_send, Cond.instanceMethod yX0_send, Cond.selects RX0 yX0_send yX0_send, Cond.code yX0_send cX0_send 5 none, Cond.methodLink RX5 101 yX1_reading, Cond.instanceMethod yX1_reading, Cond.selects RX1 yX1_reading yX1_reading, Cond.initialized RX1, Cond.code yX1_reading cX1_reading 4 (some .long), Cond.fieldLink RX1 15 "RiverModel$Gauges" "places" "[I", Cond.fieldLink RX1 9 "RiverModel$Gauges" "whats" "[I"]
def wsX5_tryBlock_r6 : List Cond := [Cond.fieldLink RX1 41 "RiverModel$Course" "moved" "[J", Cond.fieldLink RX1 50 "RiverModel$Course" "held" "[J", Cond.methodLink RX1 35 yX1_isSet, Cond.instanceMethod yX1_isSet, Cond.selects RX1 yX1_isSet yX1_isSet, Cond.code yX1_isSet cX1_isSet 2 (some .boolean), Cond.static yX9_isNoItem, Cond.code yX9_isNoItem cX9_isNoItem 1 (some .boolean), Cond.methodLink RX5 63 yX5_takeTried, Cond.instanceMethod yX5_takeTried, Cond.selects RX5 yX5_takeTried yX5_takeTried, Cond.code yX5_takeTried cX5_takeTried 3 none, Cond.fieldLink RX5 21 "RiverModel$Search" "found" "[I", Cond.methodLink RX5 113 arraycopyName, Cond.methodLink RX5 67 yX5_tryBlock, Cond.instanceMethod yX5_tryBlock, Cond.selects RX5 yX5_tryBlock yX5_tryBlock]
def wsX5_tryBlock : List Cond := .code yX5_tryBlock cX5_tryBlock 12 none :: ((wsX5_tryBlock_r1 ++ (wsX5_tryBlock_r2 ++ (wsX5_tryBlock_r3 ++ (wsX5_tryBlock_r4 ++ (wsX5_tryBlock_r5 ++ wsX5_tryBlock_r6))))) ++ wsX50 ++ wsX00 ++ wsX60 ++ wsX40 ++ wsX10)
def wsX6_init : List Cond := .code yX6_init cX6_init 1 none :: ([.methodLink RX6 3 objectInit, .instanceMethod objectInit, .code objectInit ⟨#[0xb1]⟩ 1 none, .arrayClass .int, .fieldLink RX6 9 "RiverModel$Sky" "rains" "[I", .fieldLink RX6 15 "RiverModel$Sky" "temps" "[I", .methodLink RX6 18 yJ7_fill_53178, .static yJ7_fill_53178, .initialized RJ7, .code yJ7_fill_53178 cJ7_fill_53178 4 none] ++ wsX60)
def wsX7_init : List Cond := .code yX7_init cX7_init 1 none :: ([.methodLink RX7 3 objectInit, .instanceMethod objectInit, .code objectInit ⟨#[0xb1]⟩ 1 none, .arrayClass .int, .fieldLink RX7 9 "RiverModel$Text" "bytes" "[I", .fieldLink RX7 15 "RiverModel$Text" "row" "[I", .fieldLink RX7 18 "RiverModel$Text" "length" "I", .fieldLink RX7 22 "RiverModel$Text" "at" "I"] ++ wsX70)
def wsX7_append : List Cond := .code yX7_append cX7_append 5 none :: ([.fieldLink RX7 18 "RiverModel$Text" "length" "I", .fieldLink RX7 9 "RiverModel$Text" "bytes" "[I"] ++ wsX70)
def wsX7_nextByte : List Cond := .code yX7_nextByte cX7_nextByte 1 (some .int) :: ([.fieldLink RX7 22 "RiverModel$Text" "at" "I", .fieldLink RX7 18 "RiverModel$Text" "length" "I", .fieldLink RX7 9 "RiverModel$Text" "bytes" "[I"] ++ wsX70)
def wsX7_readName : List Cond := .code yX7_readName cX7_readName 3 (some .boolean) :: ([.fieldLink RX7 15 "RiverModel$Text" "row" "[I", .methodLink RX7 48 yX7_nextByte, .instanceMethod yX7_nextByte, .selects RX7 yX7_nextByte yX7_nextByte, .initialized RX7, .code yX7_nextByte cX7_nextByte 1 (some .int), .fieldLink RX7 22 "RiverModel$Text" "at" "I", .fieldLink RX7 18 "RiverModel$Text" "length" "I", .fieldLink RX7 9 "RiverModel$Text" "bytes" "[I", .static yX9_isNoStore, .initialized RX9, .code yX9_isNoStore cX9_isNoStore 1 (some .boolean)] ++ wsX70)
def wsX7_isAtFigure : List Cond := .code yX7_isAtFigure cX7_isAtFigure 1 (some .boolean) :: ([.fieldLink RX7 22 "RiverModel$Text" "at" "I", .fieldLink RX7 18 "RiverModel$Text" "length" "I", .fieldLink RX7 9 "RiverModel$Text" "bytes" "[I", .static yX9_isOutside, .initialized RX9, .code yX9_isOutside cX9_isOutside 3 (some .boolean)] ++ wsX70)
def wsX7_readNumber : List Cond := .code yX7_readNumber cX7_readNumber 4 (some .boolean) :: ([.fieldLink RX7 15 "RiverModel$Text" "row" "[I", .methodLink RX7 48 yX7_nextByte, .instanceMethod yX7_nextByte, .selects RX7 yX7_nextByte yX7_nextByte, .initialized RX7, .code yX7_nextByte cX7_nextByte 1 (some .int), .fieldLink RX7 22 "RiverModel$Text" "at" "I", .fieldLink RX7 18 "RiverModel$Text" "length" "I", .fieldLink RX7 9 "RiverModel$Text" "bytes" "[I", .methodLink RX7 71 yX7_isAtFigure, .instanceMethod yX7_isAtFigure, .selects RX7 yX7_isAtFigure yX7_isAtFigure, .code yX7_isAtFigure cX7_isAtFigure 1 (some .boolean), .static yX9_isOutside, .initialized RX9, .code yX9_isOutside cX9_isOutside 3 (some .boolean)] ++ wsX70)
def wsX7_readItem_r1 : List Cond := [Cond.fieldLink RX7 15 "RiverModel$Text" "row" "[I", Cond.methodLink RX7 42 yJ7_fill_53178, Cond.static yJ7_fill_53178, Cond.initialized RJ7, Cond.code yJ7_fill_53178 cJ7_fill_53178 4 none, Cond.methodLink RX7 48 yX7_nextByte, Cond.instanceMethod yX7_nextByte, Cond.selects RX7 yX7_nextByte yX7_nextByte, Cond.initialized RX7, Cond.code yX7_nextByte cX7_nextByte 1 (some .int), Cond.fieldLink RX7 22 "RiverModel$Text" "at" "I", Cond.fieldLink RX7 18 "RiverModel$Text" "length" "I", Cond.fieldLink RX7 9 "RiverModel$Text" "bytes" "[I", Cond.methodLink RX7 52 yX2_namesOf, Cond.static yX2_namesOf, Cond.initialized RX2, Cond.code yX2_namesOf cX2_namesOf 1 (some .int), Cond.methodLink RX7 58 yX7_readName, Cond.instanceMethod yX7_readName, Cond.selects RX7 yX7_readName yX7_readName, Cond.code yX7_readName cX7_readName 3 (some .boolean), Cond.static yX9_isNoStore, Cond.initialized RX9, Cond.code yX9_isNoStore cX9_isNoStore 1 (some .boolean)]
def wsX7_readItem_r2 : List Cond := [Cond.methodLink RX7 62 yX2_numbersOf, Cond.static yX2_numbersOf, Cond.code yX2_numbersOf cX2_numbersOf 1 (some .int), Cond.methodLink RX7 65 yX7_readNumber, Cond.instanceMethod yX7_readNumber, Cond.selects RX7 yX7_readNumber yX7_readNumber, Cond.code yX7_readNumber cX7_readNumber 4 (some .boolean), Cond.methodLink RX7 71 yX7_isAtFigure, Cond.instanceMethod yX7_isAtFigure, Cond.selects RX7 yX7_isAtFigure yX7_isAtFigure, Cond.code yX7_isAtFigure cX7_isAtFigure 1 (some .boolean), Cond.static yX9_isOutside, Cond.code yX9_isOutside cX9_isOutside 3 (some .boolean)]
def wsX7_readItem : List Cond := .code yX7_readItem cX7_readItem 5 (some .boolean) :: ((wsX7_readItem_r1 ++ wsX7_readItem_r2) ++ wsX70)
def wsX7_readInto_r1 : List Cond := [Cond.fieldLink RX7 22 "RiverModel$Text" "at" "I", Cond.fieldLink RX7 18 "RiverModel$Text" "length" "I", Cond.fieldLink RX7 15 "RiverModel$Text" "row" "[I", Cond.methodLink RX7 25 yX4_empty, Cond.instanceMethod yX4_empty, Cond.selects RX4 yX4_empty yX4_empty, Cond.initialized RX4, Cond.code yX4_empty cX4_empty 1 none, Cond.fieldLink RX4 21 "RiverModel$Model" "many" "I", Cond.fieldLink RX4 25 "RiverModel$Model" "stores" "I", Cond.fieldLink RX4 28 "RiverModel$Model" "gates" "I", Cond.fieldLink RX4 15 "RiverModel$Model" "storeItems" "[I", Cond.fieldLink RX4 18 "RiverModel$Model" "gateItems" "[I", Cond.methodLink RX4 31 yJ7_fill_53178, Cond.static yJ7_fill_53178, Cond.initialized RJ7, Cond.code yJ7_fill_53178 cJ7_fill_53178 4 none, Cond.methodLink RX7 30 yX7_readItem, Cond.instanceMethod yX7_readItem, Cond.selects RX7 yX7_readItem yX7_readItem, Cond.initialized RX7, Cond.code yX7_readItem cX7_readItem 5 (some .boolean), Cond.methodLink RX7 42 yJ7_fill_53178, Cond.methodLink RX7 48 yX7_nextByte]
def wsX7_readInto_r2 : List Cond := [Cond.instanceMethod yX7_nextByte, Cond.selects RX7 yX7_nextByte yX7_nextByte, Cond.code yX7_nextByte cX7_nextByte 1 (some .int), Cond.fieldLink RX7 9 "RiverModel$Text" "bytes" "[I", Cond.methodLink RX7 52 yX2_namesOf, Cond.static yX2_namesOf, Cond.initialized RX2, Cond.code yX2_namesOf cX2_namesOf 1 (some .int), Cond.methodLink RX7 58 yX7_readName, Cond.instanceMethod yX7_readName, Cond.selects RX7 yX7_readName yX7_readName, Cond.code yX7_readName cX7_readName 3 (some .boolean), Cond.static yX9_isNoStore, Cond.initialized RX9, Cond.code yX9_isNoStore cX9_isNoStore 1 (some .boolean), Cond.methodLink RX7 62 yX2_numbersOf, Cond.static yX2_numbersOf, Cond.code yX2_numbersOf cX2_numbersOf 1 (some .int), Cond.methodLink RX7 65 yX7_readNumber, Cond.instanceMethod yX7_readNumber, Cond.selects RX7 yX7_readNumber yX7_readNumber, Cond.code yX7_readNumber cX7_readNumber 4 (some .boolean), Cond.methodLink RX7 71 yX7_isAtFigure, Cond.instanceMethod yX7_isAtFigure]
def wsX7_readInto_r3 : List Cond := [Cond.selects RX7 yX7_isAtFigure yX7_isAtFigure, Cond.code yX7_isAtFigure cX7_isAtFigure 1 (some .boolean), Cond.static yX9_isOutside, Cond.code yX9_isOutside cX9_isOutside 3 (some .boolean), Cond.methodLink RX7 34 yX4_mayFollow, Cond.instanceMethod yX4_mayFollow, Cond.selects RX4 yX4_mayFollow yX4_mayFollow, Cond.code yX4_mayFollow cX4_mayFollow 2 (some .boolean), Cond.methodLink RX4 62 yX4_areNumbersAsTold, Cond.static yX4_areNumbersAsTold, Cond.code yX4_areNumbersAsTold cX4_areNumbersAsTold 1 (some .boolean), Cond.methodLink RX4 77 yX2_areNumbersAsTold, Cond.static yX2_areNumbersAsTold, Cond.code yX2_areNumbersAsTold cX2_areNumbersAsTold 4 (some .boolean), Cond.constant RX2 9 (1000000), Cond.methodLink RX2 10 yX2_isUpTo, Cond.static yX2_isUpTo, Cond.code yX2_isUpTo cX2_isUpTo 2 (some .boolean), Cond.methodLink RX4 66 yX4_hasStore, Cond.instanceMethod yX4_hasStore, Cond.selects RX4 yX4_hasStore yX4_hasStore, Cond.code yX4_hasStore cX4_hasStore 2 (some .boolean), Cond.methodLink RX4 69 yX4_areNamesAhead, Cond.instanceMethod yX4_areNamesAhead]
def wsX7_readInto_r4 : List Cond := [Cond.selects RX4 yX4_areNamesAhead yX4_areNamesAhead, Cond.code yX4_areNamesAhead cX4_areNamesAhead 5 (some .boolean), Cond.methodLink RX4 82 yX4_isStoreAhead, Cond.instanceMethod yX4_isStoreAhead, Cond.selects RX4 yX4_isStoreAhead yX4_isStoreAhead, Cond.code yX4_isStoreAhead cX4_isStoreAhead 3 (some .boolean), Cond.methodLink RX7 38 yX4_add, Cond.instanceMethod yX4_add, Cond.selects RX4 yX4_add yX4_add, Cond.code yX4_add cX4_add 2 none, Cond.methodLink RX4 55 yX4_put, Cond.instanceMethod yX4_put, Cond.selects RX4 yX4_put yX4_put, Cond.code yX4_put cX4_put 4 none, Cond.methodLink RX4 51 yX4_putCell, Cond.instanceMethod yX4_putCell, Cond.selects RX4 yX4_putCell yX4_putCell, Cond.code yX4_putCell cX4_putCell 4 none, Cond.fieldLink RX4 9 "RiverModel$Model" "cells" "[I", Cond.static yX9_isNoItem, Cond.code yX9_isNoItem cX9_isNoItem 1 (some .boolean)]
def wsX7_readInto : List Cond := .code yX7_readInto cX7_readInto 4 (some .int) :: ((wsX7_readInto_r1 ++ (wsX7_readInto_r2 ++ (wsX7_readInto_r3 ++ wsX7_readInto_r4))) ++ wsX70 ++ wsX40)
def wsX7_readAlone_r1 : List Cond := [Cond.fieldLink RX7 22 "RiverModel$Text" "at" "I", Cond.fieldLink RX7 18 "RiverModel$Text" "length" "I", Cond.methodLink RX7 30 yX7_readItem, Cond.instanceMethod yX7_readItem, Cond.selects RX7 yX7_readItem yX7_readItem, Cond.initialized RX7, Cond.code yX7_readItem cX7_readItem 5 (some .boolean), Cond.fieldLink RX7 15 "RiverModel$Text" "row" "[I", Cond.methodLink RX7 42 yJ7_fill_53178, Cond.static yJ7_fill_53178, Cond.initialized RJ7, Cond.code yJ7_fill_53178 cJ7_fill_53178 4 none, Cond.methodLink RX7 48 yX7_nextByte, Cond.instanceMethod yX7_nextByte, Cond.selects RX7 yX7_nextByte yX7_nextByte, Cond.code yX7_nextByte cX7_nextByte 1 (some .int), Cond.fieldLink RX7 9 "RiverModel$Text" "bytes" "[I", Cond.methodLink RX7 52 yX2_namesOf, Cond.static yX2_namesOf, Cond.initialized RX2, Cond.code yX2_namesOf cX2_namesOf 1 (some .int), Cond.methodLink RX7 58 yX7_readName, Cond.instanceMethod yX7_readName, Cond.selects RX7 yX7_readName yX7_readName]
def wsX7_readAlone_r2 : List Cond := [Cond.code yX7_readName cX7_readName 3 (some .boolean), Cond.static yX9_isNoStore, Cond.initialized RX9, Cond.code yX9_isNoStore cX9_isNoStore 1 (some .boolean), Cond.methodLink RX7 62 yX2_numbersOf, Cond.static yX2_numbersOf, Cond.code yX2_numbersOf cX2_numbersOf 1 (some .int), Cond.methodLink RX7 65 yX7_readNumber, Cond.instanceMethod yX7_readNumber, Cond.selects RX7 yX7_readNumber yX7_readNumber, Cond.code yX7_readNumber cX7_readNumber 4 (some .boolean), Cond.methodLink RX7 71 yX7_isAtFigure, Cond.instanceMethod yX7_isAtFigure, Cond.selects RX7 yX7_isAtFigure yX7_isAtFigure, Cond.code yX7_isAtFigure cX7_isAtFigure 1 (some .boolean), Cond.static yX9_isOutside, Cond.code yX9_isOutside cX9_isOutside 3 (some .boolean)]
def wsX7_readAlone : List Cond := .code yX7_readAlone cX7_readAlone 1 (some .boolean) :: ((wsX7_readAlone_r1 ++ wsX7_readAlone_r2) ++ wsX70)
def wsX8_init : List Cond := .code yX8_init cX8_init 1 none :: ([.methodLink RX8 3 objectInit, .instanceMethod objectInit, .code objectInit ⟨#[0xb1]⟩ 1 none, .arrayClass .int, .fieldLink RX8 9 "RiverModel$Worlds" "weights" "[I", .fieldLink RX8 15 "RiverModel$Worlds" "warnings" "[I", .fieldLink RX8 18 "RiverModel$Worlds" "rains" "[I"] ++ wsX80)
def wsX9_isNoWorld : List Cond := .code yX9_isNoWorld cX9_isNoWorld 1 (some .boolean) :: ([])
def wsX8_rainAhead : List Cond := .code yX8_rainAhead cX8_rainAhead 3 (some .int) :: ([.fieldLink RX8 18 "RiverModel$Worlds" "rains" "[I", .static yX9_isNoWorld, .initialized RX9, .code yX9_isNoWorld cX9_isNoWorld 1 (some .boolean), .static yX9_isOutside, .code yX9_isOutside cX9_isOutside 3 (some .boolean)] ++ wsX80)
def wsX8_putRain : List Cond := .code yX8_putRain cX8_putRain 5 (some .int) :: ([.fieldLink RX8 18 "RiverModel$Worlds" "rains" "[I", .methodLink RX8 21 yX8_rainAhead, .instanceMethod yX8_rainAhead, .selects RX8 yX8_rainAhead yX8_rainAhead, .initialized RX8, .code yX8_rainAhead cX8_rainAhead 3 (some .int), .static yX9_isNoWorld, .initialized RX9, .code yX9_isNoWorld cX9_isNoWorld 1 (some .boolean), .static yX9_isOutside, .code yX9_isOutside cX9_isOutside 3 (some .boolean)] ++ wsX80)
def wsX8_weightOfAll : List Cond := .code yX8_weightOfAll cX8_weightOfAll 3 (some .int) :: ([.fieldLink RX8 9 "RiverModel$Worlds" "weights" "[I"] ++ wsX80)
def wsX8_enter : List Cond := .code yX8_enter cX8_enter 3 none :: ([.fieldLink RX8 15 "RiverModel$Worlds" "warnings" "[I"] ++ wsX80)
def wsX9_init_r1 : List Cond := [Cond.methodLink RX9 1 objectInit, Cond.instanceMethod objectInit, Cond.code objectInit ⟨#[0xb1]⟩ 1 none, Cond.classLink RX9 7 RX7, Cond.instantiable RX7 4, Cond.initialized RX7, Cond.fieldLink RX9 10 "RiverModel" "text" "LRiverModel$Text;", Cond.classLink RX9 16 RX4, Cond.instantiable RX4 6, Cond.initialized RX4, Cond.fieldLink RX9 19 "RiverModel" "model" "LRiverModel$Model;", Cond.fieldLink RX9 23 "RiverModel" "draft" "LRiverModel$Model;", Cond.fieldLink RX9 26 "RiverModel" "other" "LRiverModel$Model;", Cond.fieldLink RX9 29 "RiverModel" "isBuilt" "Z", Cond.fieldLink RX9 33 "RiverModel" "isOtherLaid" "Z", Cond.classLink RX9 36 RX6, Cond.instantiable RX6 2, Cond.initialized RX6, Cond.fieldLink RX9 39 "RiverModel" "skyA" "LRiverModel$Sky;", Cond.fieldLink RX9 43 "RiverModel" "skyB" "LRiverModel$Sky;", Cond.arrayClass .int, Cond.fieldLink RX9 46 "RiverModel" "startsB" "[I", Cond.classLink RX9 50 RX0, Cond.instantiable RX0 8]
def wsX9_init_r2 : List Cond := [Cond.initialized RX0, Cond.fieldLink RX9 53 "RiverModel" "now" "LRiverModel$Course;", Cond.fieldLink RX9 57 "RiverModel" "trial" "LRiverModel$Course;", Cond.fieldLink RX9 60 "RiverModel" "second" "LRiverModel$Course;", Cond.fieldLink RX9 63 "RiverModel" "kept" "[LRiverModel$Course;", Cond.fieldLink RX9 67 "RiverModel" "keptMany" "I", Cond.classLink RX9 71 RX1, Cond.instantiable RX1 4, Cond.initialized RX1, Cond.fieldLink RX9 74 "RiverModel" "gauges" "LRiverModel$Gauges;", Cond.classLink RX9 78 RX3, Cond.instantiable RX3 5, Cond.initialized RX3, Cond.fieldLink RX9 81 "RiverModel" "knobs" "LRiverModel$Knobs;", Cond.classLink RX9 85 RX8, Cond.instantiable RX8 3, Cond.initialized RX8, Cond.fieldLink RX9 88 "RiverModel" "worlds" "LRiverModel$Worlds;", Cond.classLink RX9 92 RX5, Cond.instantiable RX5 10, Cond.initialized RX5, Cond.fieldLink RX9 95 "RiverModel" "search" "LRiverModel$Search;", Cond.instanceMethod yX7_init, Cond.code yX7_init cX7_init 1 none]
def wsX9_init_r3 : List Cond := [Cond.methodLink RX7 3 objectInit, Cond.fieldLink RX7 9 "RiverModel$Text" "bytes" "[I", Cond.fieldLink RX7 15 "RiverModel$Text" "row" "[I", Cond.fieldLink RX7 18 "RiverModel$Text" "length" "I", Cond.fieldLink RX7 22 "RiverModel$Text" "at" "I", Cond.instanceMethod yX4_init, Cond.code yX4_init cX4_init 1 none, Cond.methodLink RX4 3 objectInit, Cond.fieldLink RX4 9 "RiverModel$Model" "cells" "[I", Cond.fieldLink RX4 15 "RiverModel$Model" "storeItems" "[I", Cond.fieldLink RX4 18 "RiverModel$Model" "gateItems" "[I", Cond.fieldLink RX4 21 "RiverModel$Model" "many" "I", Cond.fieldLink RX4 25 "RiverModel$Model" "stores" "I", Cond.fieldLink RX4 28 "RiverModel$Model" "gates" "I", Cond.methodLink RX9 38 yX6_init, Cond.instanceMethod yX6_init, Cond.code yX6_init cX6_init 1 none, Cond.methodLink RX6 3 objectInit, Cond.fieldLink RX6 9 "RiverModel$Sky" "rains" "[I", Cond.fieldLink RX6 15 "RiverModel$Sky" "temps" "[I", Cond.methodLink RX6 18 yJ7_fill_53178, Cond.static yJ7_fill_53178, Cond.initialized RJ7, Cond.code yJ7_fill_53178 cJ7_fill_53178 4 none]
def wsX9_init_r4 : List Cond := [Cond.instanceMethod yX0_init, Cond.code yX0_init cX0_init 1 none, Cond.methodLink RX0 3 objectInit, Cond.arrayClass .long, Cond.fieldLink RX0 9 "RiverModel$Course" "held" "[J", Cond.fieldLink RX0 15 "RiverModel$Course" "moved" "[J", Cond.fieldLink RX0 18 "RiverModel$Course" "openings" "[I", Cond.fieldLink RX0 22 "RiverModel$Course" "due" "[J", Cond.fieldLink RX0 25 "RiverModel$Course" "rained" "J", Cond.fieldLink RX0 29 "RiverModel$Course" "air" "J", Cond.fieldLink RX0 32 "RiverModel$Course" "sea" "J", Cond.fieldLink RX0 35 "RiverModel$Course" "hours" "I", Cond.methodLink RX9 73 yX1_init, Cond.instanceMethod yX1_init, Cond.code yX1_init cX1_init 1 none, Cond.methodLink RX1 3 objectInit, Cond.fieldLink RX1 9 "RiverModel$Gauges" "whats" "[I", Cond.fieldLink RX1 15 "RiverModel$Gauges" "places" "[I", Cond.fieldLink RX1 18 "RiverModel$Gauges" "seen" "[I", Cond.fieldLink RX1 21 "RiverModel$Gauges" "mayBeOff" "I", Cond.methodLink RX1 25 yJ7_fill_53178, Cond.instanceMethod yX3_init, Cond.code yX3_init cX3_init 1 none, Cond.methodLink RX3 3 objectInit]
def wsX9_init_r5 : List Cond := [Cond.fieldLink RX3 9 "RiverModel$Knobs" "items" "[I", Cond.fieldLink RX3 15 "RiverModel$Knobs" "numbers" "[I", Cond.fieldLink RX3 18 "RiverModel$Knobs" "froms" "[I", Cond.fieldLink RX3 21 "RiverModel$Knobs" "steps" "[I", Cond.fieldLink RX3 24 "RiverModel$Knobs" "manys" "[I", Cond.instanceMethod yX8_init, Cond.code yX8_init cX8_init 1 none, Cond.methodLink RX8 3 objectInit, Cond.fieldLink RX8 9 "RiverModel$Worlds" "weights" "[I", Cond.fieldLink RX8 15 "RiverModel$Worlds" "warnings" "[I", Cond.fieldLink RX8 18 "RiverModel$Worlds" "rains" "[I", Cond.methodLink RX9 94 yX5_init, Cond.instanceMethod yX5_init, Cond.code yX5_init cX5_init 2 none, Cond.methodLink RX5 3 objectInit, Cond.classLink RX5 9 RX0, Cond.fieldLink RX5 11 "RiverModel$Search" "blockEnds" "[LRiverModel$Course;", Cond.fieldLink RX5 17 "RiverModel$Search" "tried" "[I", Cond.fieldLink RX5 21 "RiverModel$Search" "found" "[I", Cond.fieldLink RX5 24 "RiverModel$Search" "isFound" "Z", Cond.fieldLink RX5 28 "RiverModel$Search" "leastPeak" "J", Cond.fieldLink RX5 32 "RiverModel$Search" "gate" "I", Cond.fieldLink RX5 36 "RiverModel$Search" "blockHours" "I", Cond.fieldLink RX5 39 "RiverModel$Search" "gauge" "I"]
def wsX9_init_r6 : List Cond := [Cond.fieldLink RX5 42 "RiverModel$Search" "store" "I", Cond.fieldLink RX5 45 "RiverModel$Search" "limit" "J"]
def wsX9_init : List Cond := .code yX9_init cX9_init 2 none :: ((wsX9_init_r1 ++ (wsX9_init_r2 ++ (wsX9_init_r3 ++ (wsX9_init_r4 ++ (wsX9_init_r5 ++ wsX9_init_r6))))) ++ wsX70 ++ wsX90 ++ wsX40 ++ wsX60 ++ wsX00 ++ wsX10 ++ wsX30 ++ wsX80 ++ wsX50)
def wsX9_write : List Cond := .code yX9_write cX9_write 4 (some .int) :: ([.fieldLink RX9 10 "RiverModel" "text" "LRiverModel$Text;", .fieldLink RX9 103 "RiverModel$Text" "length" "I", .methodLink RX9 99 yX9_isOutside, .static yX9_isOutside, .initialized RX9, .code yX9_isOutside cX9_isOutside 3 (some .boolean), .methodLink RX9 106 yX7_append, .instanceMethod yX7_append, .selects RX7 yX7_append yX7_append, .initialized RX7, .code yX7_append cX7_append 5 none, .fieldLink RX7 18 "RiverModel$Text" "length" "I", .fieldLink RX7 9 "RiverModel$Text" "bytes" "[I"] ++ wsX90 ++ wsX70)
def wsX9_clear : List Cond := .code yX9_clear cX9_clear 2 (some .int) :: ([.fieldLink RX9 10 "RiverModel" "text" "LRiverModel$Text;", .fieldLink RX9 103 "RiverModel$Text" "length" "I"] ++ wsX90 ++ wsX70)
def wsX9_fault_r1 : List Cond := [Cond.fieldLink RX9 10 "RiverModel" "text" "LRiverModel$Text;", Cond.fieldLink RX9 23 "RiverModel" "draft" "LRiverModel$Model;", Cond.methodLink RX9 110 yX7_readInto, Cond.instanceMethod yX7_readInto, Cond.selects RX7 yX7_readInto yX7_readInto, Cond.initialized RX7, Cond.code yX7_readInto cX7_readInto 4 (some .int), Cond.fieldLink RX7 22 "RiverModel$Text" "at" "I", Cond.fieldLink RX7 18 "RiverModel$Text" "length" "I", Cond.fieldLink RX7 15 "RiverModel$Text" "row" "[I", Cond.methodLink RX7 25 yX4_empty, Cond.instanceMethod yX4_empty, Cond.selects RX4 yX4_empty yX4_empty, Cond.initialized RX4, Cond.code yX4_empty cX4_empty 1 none, Cond.fieldLink RX4 21 "RiverModel$Model" "many" "I", Cond.fieldLink RX4 25 "RiverModel$Model" "stores" "I", Cond.fieldLink RX4 28 "RiverModel$Model" "gates" "I", Cond.fieldLink RX4 15 "RiverModel$Model" "storeItems" "[I", Cond.fieldLink RX4 18 "RiverModel$Model" "gateItems" "[I", Cond.methodLink RX4 31 yJ7_fill_53178, Cond.static yJ7_fill_53178, Cond.initialized RJ7, Cond.code yJ7_fill_53178 cJ7_fill_53178 4 none]
def wsX9_fault_r2 : List Cond := [Cond.methodLink RX7 30 yX7_readItem, Cond.instanceMethod yX7_readItem, Cond.selects RX7 yX7_readItem yX7_readItem, Cond.code yX7_readItem cX7_readItem 5 (some .boolean), Cond.methodLink RX7 42 yJ7_fill_53178, Cond.methodLink RX7 48 yX7_nextByte, Cond.instanceMethod yX7_nextByte, Cond.selects RX7 yX7_nextByte yX7_nextByte, Cond.code yX7_nextByte cX7_nextByte 1 (some .int), Cond.fieldLink RX7 9 "RiverModel$Text" "bytes" "[I", Cond.methodLink RX7 52 yX2_namesOf, Cond.static yX2_namesOf, Cond.initialized RX2, Cond.code yX2_namesOf cX2_namesOf 1 (some .int), Cond.methodLink RX7 58 yX7_readName, Cond.instanceMethod yX7_readName, Cond.selects RX7 yX7_readName yX7_readName, Cond.code yX7_readName cX7_readName 3 (some .boolean), Cond.static yX9_isNoStore, Cond.initialized RX9, Cond.code yX9_isNoStore cX9_isNoStore 1 (some .boolean), Cond.methodLink RX7 62 yX2_numbersOf, Cond.static yX2_numbersOf, Cond.code yX2_numbersOf cX2_numbersOf 1 (some .int)]
def wsX9_fault_r3 : List Cond := [Cond.methodLink RX7 65 yX7_readNumber, Cond.instanceMethod yX7_readNumber, Cond.selects RX7 yX7_readNumber yX7_readNumber, Cond.code yX7_readNumber cX7_readNumber 4 (some .boolean), Cond.methodLink RX7 71 yX7_isAtFigure, Cond.instanceMethod yX7_isAtFigure, Cond.selects RX7 yX7_isAtFigure yX7_isAtFigure, Cond.code yX7_isAtFigure cX7_isAtFigure 1 (some .boolean), Cond.static yX9_isOutside, Cond.code yX9_isOutside cX9_isOutside 3 (some .boolean), Cond.methodLink RX7 34 yX4_mayFollow, Cond.instanceMethod yX4_mayFollow, Cond.selects RX4 yX4_mayFollow yX4_mayFollow, Cond.code yX4_mayFollow cX4_mayFollow 2 (some .boolean), Cond.methodLink RX4 62 yX4_areNumbersAsTold, Cond.static yX4_areNumbersAsTold, Cond.code yX4_areNumbersAsTold cX4_areNumbersAsTold 1 (some .boolean), Cond.methodLink RX4 77 yX2_areNumbersAsTold, Cond.static yX2_areNumbersAsTold, Cond.code yX2_areNumbersAsTold cX2_areNumbersAsTold 4 (some .boolean), Cond.constant RX2 9 (1000000), Cond.methodLink RX2 10 yX2_isUpTo, Cond.static yX2_isUpTo, Cond.code yX2_isUpTo cX2_isUpTo 2 (some .boolean)]
def wsX9_fault_r4 : List Cond := [Cond.methodLink RX4 66 yX4_hasStore, Cond.instanceMethod yX4_hasStore, Cond.selects RX4 yX4_hasStore yX4_hasStore, Cond.code yX4_hasStore cX4_hasStore 2 (some .boolean), Cond.methodLink RX4 69 yX4_areNamesAhead, Cond.instanceMethod yX4_areNamesAhead, Cond.selects RX4 yX4_areNamesAhead yX4_areNamesAhead, Cond.code yX4_areNamesAhead cX4_areNamesAhead 5 (some .boolean), Cond.methodLink RX4 82 yX4_isStoreAhead, Cond.instanceMethod yX4_isStoreAhead, Cond.selects RX4 yX4_isStoreAhead yX4_isStoreAhead, Cond.code yX4_isStoreAhead cX4_isStoreAhead 3 (some .boolean), Cond.methodLink RX7 38 yX4_add, Cond.instanceMethod yX4_add, Cond.selects RX4 yX4_add yX4_add, Cond.code yX4_add cX4_add 2 none, Cond.methodLink RX4 55 yX4_put, Cond.instanceMethod yX4_put, Cond.selects RX4 yX4_put yX4_put, Cond.code yX4_put cX4_put 4 none, Cond.methodLink RX4 51 yX4_putCell, Cond.instanceMethod yX4_putCell, Cond.selects RX4 yX4_putCell yX4_putCell, Cond.code yX4_putCell cX4_putCell 4 none]
def wsX9_fault_r5 : List Cond := [Cond.fieldLink RX4 9 "RiverModel$Model" "cells" "[I", Cond.static yX9_isNoItem, Cond.code yX9_isNoItem cX9_isNoItem 1 (some .boolean)]
def wsX9_fault : List Cond := .code yX9_fault cX9_fault 1 (some .int) :: ((wsX9_fault_r1 ++ (wsX9_fault_r2 ++ (wsX9_fault_r3 ++ (wsX9_fault_r4 ++ wsX9_fault_r5)))) ++ wsX90 ++ wsX70 ++ wsX40)
def wsX9_draftBecomesModel_r1 : List Cond := [Cond.fieldLink RX9 19 "RiverModel" "model" "LRiverModel$Model;", Cond.fieldLink RX9 23 "RiverModel" "draft" "LRiverModel$Model;", Cond.fieldLink RX9 29 "RiverModel" "isBuilt" "Z", Cond.fieldLink RX9 33 "RiverModel" "isOtherLaid" "Z", Cond.fieldLink RX9 67 "RiverModel" "keptMany" "I", Cond.fieldLink RX9 53 "RiverModel" "now" "LRiverModel$Course;", Cond.fieldLink RX9 46 "RiverModel" "startsB" "[I", Cond.methodLink RX9 147 yX0_begin, Cond.instanceMethod yX0_begin, Cond.selects RX0 yX0_begin yX0_begin, Cond.initialized RX0, Cond.code yX0_begin cX0_begin 3 none, Cond.fieldLink RX0 9 "RiverModel$Course" "held" "[J", Cond.fieldLink RX0 15 "RiverModel$Course" "moved" "[J", Cond.fieldLink RX0 18 "RiverModel$Course" "openings" "[I", Cond.fieldLink RX0 22 "RiverModel$Course" "due" "[J", Cond.fieldLink RX0 25 "RiverModel$Course" "rained" "J", Cond.fieldLink RX0 29 "RiverModel$Course" "air" "J", Cond.fieldLink RX0 32 "RiverModel$Course" "sea" "J", Cond.fieldLink RX0 35 "RiverModel$Course" "hours" "I", Cond.methodLink RX0 39 yX4_startOf, Cond.instanceMethod yX4_startOf, Cond.selects RX4 yX4_startOf yX4_startOf, Cond.initialized RX4]
def wsX9_draftBecomesModel_r2 : List Cond := [Cond.code yX4_startOf cX4_startOf 2 (some .int), Cond.fieldLink RX4 15 "RiverModel$Model" "storeItems" "[I", Cond.methodLink RX4 66 yX4_hasStore, Cond.instanceMethod yX4_hasStore, Cond.selects RX4 yX4_hasStore yX4_hasStore, Cond.code yX4_hasStore cX4_hasStore 2 (some .boolean), Cond.methodLink RX4 73 yX4_cell, Cond.instanceMethod yX4_cell, Cond.selects RX4 yX4_cell yX4_cell, Cond.code yX4_cell cX4_cell 3 (some .int), Cond.fieldLink RX4 9 "RiverModel$Model" "cells" "[I", Cond.methodLink RX0 45 yJ7_fill_d0a16, Cond.static yJ7_fill_d0a16, Cond.initialized RJ7, Cond.code yJ7_fill_d0a16 cJ7_fill_d0a16 5 none, Cond.methodLink RX0 51 yJ7_fill_53178, Cond.static yJ7_fill_53178, Cond.code yJ7_fill_53178 cJ7_fill_53178 4 none, Cond.methodLink RX9 347 yX4_startOf]
def wsX9_draftBecomesModel : List Cond := .code yX9_draftBecomesModel cX9_draftBecomesModel 3 none :: ((wsX9_draftBecomesModel_r1 ++ wsX9_draftBecomesModel_r2) ++ wsX90 ++ wsX00 ++ wsX40)
def wsX9_build_r1 : List Cond := [Cond.fieldLink RX9 10 "RiverModel" "text" "LRiverModel$Text;", Cond.fieldLink RX9 23 "RiverModel" "draft" "LRiverModel$Model;", Cond.fieldLink RX9 114 "RiverModel$Model" "stores" "I", Cond.fieldLink RX9 74 "RiverModel" "gauges" "LRiverModel$Gauges;", Cond.fieldLink RX9 81 "RiverModel" "knobs" "LRiverModel$Knobs;", Cond.fieldLink RX9 19 "RiverModel" "model" "LRiverModel$Model;", Cond.fieldLink RX9 124 "RiverModel$Model" "many" "I", Cond.methodLink RX9 110 yX7_readInto, Cond.instanceMethod yX7_readInto, Cond.selects RX7 yX7_readInto yX7_readInto, Cond.initialized RX7, Cond.code yX7_readInto cX7_readInto 4 (some .int), Cond.fieldLink RX7 22 "RiverModel$Text" "at" "I", Cond.fieldLink RX7 18 "RiverModel$Text" "length" "I", Cond.fieldLink RX7 15 "RiverModel$Text" "row" "[I", Cond.methodLink RX7 25 yX4_empty, Cond.instanceMethod yX4_empty, Cond.selects RX4 yX4_empty yX4_empty, Cond.initialized RX4, Cond.code yX4_empty cX4_empty 1 none, Cond.fieldLink RX4 21 "RiverModel$Model" "many" "I", Cond.fieldLink RX4 25 "RiverModel$Model" "stores" "I", Cond.fieldLink RX4 28 "RiverModel$Model" "gates" "I", Cond.fieldLink RX4 15 "RiverModel$Model" "storeItems" "[I"]
def wsX9_build_r2 : List Cond := [Cond.fieldLink RX4 18 "RiverModel$Model" "gateItems" "[I", Cond.methodLink RX4 31 yJ7_fill_53178, Cond.static yJ7_fill_53178, Cond.initialized RJ7, Cond.code yJ7_fill_53178 cJ7_fill_53178 4 none, Cond.methodLink RX7 30 yX7_readItem, Cond.instanceMethod yX7_readItem, Cond.selects RX7 yX7_readItem yX7_readItem, Cond.code yX7_readItem cX7_readItem 5 (some .boolean), Cond.methodLink RX7 42 yJ7_fill_53178, Cond.methodLink RX7 48 yX7_nextByte, Cond.instanceMethod yX7_nextByte, Cond.selects RX7 yX7_nextByte yX7_nextByte, Cond.code yX7_nextByte cX7_nextByte 1 (some .int), Cond.fieldLink RX7 9 "RiverModel$Text" "bytes" "[I", Cond.methodLink RX7 52 yX2_namesOf, Cond.static yX2_namesOf, Cond.initialized RX2, Cond.code yX2_namesOf cX2_namesOf 1 (some .int), Cond.methodLink RX7 58 yX7_readName, Cond.instanceMethod yX7_readName, Cond.selects RX7 yX7_readName yX7_readName, Cond.code yX7_readName cX7_readName 3 (some .boolean), Cond.static yX9_isNoStore]
def wsX9_build_r3 : List Cond := [Cond.initialized RX9, Cond.code yX9_isNoStore cX9_isNoStore 1 (some .boolean), Cond.methodLink RX7 62 yX2_numbersOf, Cond.static yX2_numbersOf, Cond.code yX2_numbersOf cX2_numbersOf 1 (some .int), Cond.methodLink RX7 65 yX7_readNumber, Cond.instanceMethod yX7_readNumber, Cond.selects RX7 yX7_readNumber yX7_readNumber, Cond.code yX7_readNumber cX7_readNumber 4 (some .boolean), Cond.methodLink RX7 71 yX7_isAtFigure, Cond.instanceMethod yX7_isAtFigure, Cond.selects RX7 yX7_isAtFigure yX7_isAtFigure, Cond.code yX7_isAtFigure cX7_isAtFigure 1 (some .boolean), Cond.static yX9_isOutside, Cond.code yX9_isOutside cX9_isOutside 3 (some .boolean), Cond.methodLink RX7 34 yX4_mayFollow, Cond.instanceMethod yX4_mayFollow, Cond.selects RX4 yX4_mayFollow yX4_mayFollow, Cond.code yX4_mayFollow cX4_mayFollow 2 (some .boolean), Cond.methodLink RX4 62 yX4_areNumbersAsTold, Cond.static yX4_areNumbersAsTold, Cond.code yX4_areNumbersAsTold cX4_areNumbersAsTold 1 (some .boolean), Cond.methodLink RX4 77 yX2_areNumbersAsTold, Cond.static yX2_areNumbersAsTold]
def wsX9_build_r4 : List Cond := [Cond.code yX2_areNumbersAsTold cX2_areNumbersAsTold 4 (some .boolean), Cond.constant RX2 9 (1000000), Cond.methodLink RX2 10 yX2_isUpTo, Cond.static yX2_isUpTo, Cond.code yX2_isUpTo cX2_isUpTo 2 (some .boolean), Cond.methodLink RX4 66 yX4_hasStore, Cond.instanceMethod yX4_hasStore, Cond.selects RX4 yX4_hasStore yX4_hasStore, Cond.code yX4_hasStore cX4_hasStore 2 (some .boolean), Cond.methodLink RX4 69 yX4_areNamesAhead, Cond.instanceMethod yX4_areNamesAhead, Cond.selects RX4 yX4_areNamesAhead yX4_areNamesAhead, Cond.code yX4_areNamesAhead cX4_areNamesAhead 5 (some .boolean), Cond.methodLink RX4 82 yX4_isStoreAhead, Cond.instanceMethod yX4_isStoreAhead, Cond.selects RX4 yX4_isStoreAhead yX4_isStoreAhead, Cond.code yX4_isStoreAhead cX4_isStoreAhead 3 (some .boolean), Cond.methodLink RX7 38 yX4_add, Cond.instanceMethod yX4_add, Cond.selects RX4 yX4_add yX4_add, Cond.code yX4_add cX4_add 2 none, Cond.methodLink RX4 55 yX4_put, Cond.instanceMethod yX4_put, Cond.selects RX4 yX4_put yX4_put]
def wsX9_build_r5 : List Cond := [Cond.code yX4_put cX4_put 4 none, Cond.methodLink RX4 51 yX4_putCell, Cond.instanceMethod yX4_putCell, Cond.selects RX4 yX4_putCell yX4_putCell, Cond.code yX4_putCell cX4_putCell 4 none, Cond.fieldLink RX4 9 "RiverModel$Model" "cells" "[I", Cond.static yX9_isNoItem, Cond.code yX9_isNoItem cX9_isNoItem 1 (some .boolean), Cond.methodLink RX9 117 yX1_unsetAll, Cond.instanceMethod yX1_unsetAll, Cond.selects RX1 yX1_unsetAll yX1_unsetAll, Cond.initialized RX1, Cond.code yX1_unsetAll cX1_unsetAll 1 none, Cond.fieldLink RX1 9 "RiverModel$Gauges" "whats" "[I", Cond.fieldLink RX1 18 "RiverModel$Gauges" "seen" "[I", Cond.methodLink RX1 25 yJ7_fill_53178, Cond.methodLink RX9 120 yX3_unsetAll, Cond.instanceMethod yX3_unsetAll, Cond.selects RX3 yX3_unsetAll yX3_unsetAll, Cond.initialized RX3, Cond.code yX3_unsetAll cX3_unsetAll 1 none, Cond.fieldLink RX3 24 "RiverModel$Knobs" "manys" "[I", Cond.methodLink RX3 27 yJ7_fill_53178, Cond.methodLink RX9 121 yX9_draftBecomesModel]
def wsX9_build_r6 : List Cond := [Cond.instanceMethod yX9_draftBecomesModel, Cond.selects RX9 yX9_draftBecomesModel yX9_draftBecomesModel, Cond.code yX9_draftBecomesModel cX9_draftBecomesModel 3 none, Cond.fieldLink RX9 29 "RiverModel" "isBuilt" "Z", Cond.fieldLink RX9 33 "RiverModel" "isOtherLaid" "Z", Cond.fieldLink RX9 67 "RiverModel" "keptMany" "I", Cond.fieldLink RX9 53 "RiverModel" "now" "LRiverModel$Course;", Cond.fieldLink RX9 46 "RiverModel" "startsB" "[I", Cond.methodLink RX9 147 yX0_begin, Cond.instanceMethod yX0_begin, Cond.selects RX0 yX0_begin yX0_begin, Cond.initialized RX0, Cond.code yX0_begin cX0_begin 3 none, Cond.fieldLink RX0 9 "RiverModel$Course" "held" "[J", Cond.fieldLink RX0 15 "RiverModel$Course" "moved" "[J", Cond.fieldLink RX0 18 "RiverModel$Course" "openings" "[I", Cond.fieldLink RX0 22 "RiverModel$Course" "due" "[J", Cond.fieldLink RX0 25 "RiverModel$Course" "rained" "J", Cond.fieldLink RX0 29 "RiverModel$Course" "air" "J", Cond.fieldLink RX0 32 "RiverModel$Course" "sea" "J", Cond.fieldLink RX0 35 "RiverModel$Course" "hours" "I", Cond.methodLink RX0 39 yX4_startOf, Cond.instanceMethod yX4_startOf, Cond.selects RX4 yX4_startOf yX4_startOf]
def wsX9_build_r7 : List Cond := [Cond.code yX4_startOf cX4_startOf 2 (some .int), Cond.methodLink RX4 73 yX4_cell, Cond.instanceMethod yX4_cell, Cond.selects RX4 yX4_cell yX4_cell, Cond.code yX4_cell cX4_cell 3 (some .int), Cond.methodLink RX0 45 yJ7_fill_d0a16, Cond.static yJ7_fill_d0a16, Cond.code yJ7_fill_d0a16 cJ7_fill_d0a16 5 none, Cond.methodLink RX0 51 yJ7_fill_53178, Cond.methodLink RX9 347 yX4_startOf]
def wsX9_build : List Cond := .code yX9_build cX9_build 1 (some .int) :: ((wsX9_build_r1 ++ (wsX9_build_r2 ++ (wsX9_build_r3 ++ (wsX9_build_r4 ++ (wsX9_build_r5 ++ (wsX9_build_r6 ++ wsX9_build_r7)))))) ++ wsX90 ++ wsX40 ++ wsX70 ++ wsX10 ++ wsX30 ++ wsX00)
def wsX9_lacksItem : List Cond := .code yX9_lacksItem cX9_lacksItem 2 (some .boolean) :: ([.fieldLink RX9 29 "RiverModel" "isBuilt" "Z", .fieldLink RX9 19 "RiverModel" "model" "LRiverModel$Model;", .fieldLink RX9 124 "RiverModel$Model" "many" "I"] ++ wsX90 ++ wsX40)
def wsX9_item : List Cond := .code yX9_item cX9_item 3 (some .int) :: ([.fieldLink RX9 19 "RiverModel" "model" "LRiverModel$Model;", .methodLink RX9 127 yX9_isNoItem, .static yX9_isNoItem, .initialized RX9, .code yX9_isNoItem cX9_isNoItem 1 (some .boolean), .methodLink RX9 99 yX9_isOutside, .static yX9_isOutside, .code yX9_isOutside cX9_isOutside 3 (some .boolean), .methodLink RX9 131 yX9_lacksItem, .instanceMethod yX9_lacksItem, .selects RX9 yX9_lacksItem yX9_lacksItem, .code yX9_lacksItem cX9_lacksItem 2 (some .boolean), .fieldLink RX9 29 "RiverModel" "isBuilt" "Z", .fieldLink RX9 124 "RiverModel$Model" "many" "I", .methodLink RX9 134 yX4_cell, .instanceMethod yX4_cell, .selects RX4 yX4_cell yX4_cell, .initialized RX4, .code yX4_cell cX4_cell 3 (some .int), .fieldLink RX4 9 "RiverModel$Model" "cells" "[I"] ++ wsX90 ++ wsX40)
def wsX9_weather : List Cond := .code yX9_weather cX9_weather 6 (some .int) :: ([.fieldLink RX9 39 "RiverModel" "skyA" "LRiverModel$Sky;", .fieldLink RX9 43 "RiverModel" "skyB" "LRiverModel$Sky;", .fieldLink RX9 138 "RiverModel$Sky" "rains" "[I", .fieldLink RX9 141 "RiverModel$Sky" "temps" "[I", .methodLink RX9 99 yX9_isOutside, .static yX9_isOutside, .initialized RX9, .code yX9_isOutside cX9_isOutside 3 (some .boolean)] ++ wsX90 ++ wsX60)
def wsX9_anew_r1 : List Cond := [Cond.fieldLink RX9 29 "RiverModel" "isBuilt" "Z", Cond.fieldLink RX9 53 "RiverModel" "now" "LRiverModel$Course;", Cond.fieldLink RX9 144 "RiverModel$Course" "hours" "I", Cond.fieldLink RX9 19 "RiverModel" "model" "LRiverModel$Model;", Cond.methodLink RX9 147 yX0_begin, Cond.instanceMethod yX0_begin, Cond.selects RX0 yX0_begin yX0_begin, Cond.initialized RX0, Cond.code yX0_begin cX0_begin 3 none, Cond.fieldLink RX0 9 "RiverModel$Course" "held" "[J", Cond.fieldLink RX0 15 "RiverModel$Course" "moved" "[J", Cond.fieldLink RX0 18 "RiverModel$Course" "openings" "[I", Cond.fieldLink RX0 22 "RiverModel$Course" "due" "[J", Cond.fieldLink RX0 25 "RiverModel$Course" "rained" "J", Cond.fieldLink RX0 29 "RiverModel$Course" "air" "J", Cond.fieldLink RX0 32 "RiverModel$Course" "sea" "J", Cond.fieldLink RX0 35 "RiverModel$Course" "hours" "I", Cond.methodLink RX0 39 yX4_startOf, Cond.instanceMethod yX4_startOf, Cond.selects RX4 yX4_startOf yX4_startOf, Cond.initialized RX4, Cond.code yX4_startOf cX4_startOf 2 (some .int), Cond.fieldLink RX4 15 "RiverModel$Model" "storeItems" "[I", Cond.methodLink RX4 66 yX4_hasStore]
def wsX9_anew_r2 : List Cond := [Cond.instanceMethod yX4_hasStore, Cond.selects RX4 yX4_hasStore yX4_hasStore, Cond.code yX4_hasStore cX4_hasStore 2 (some .boolean), Cond.methodLink RX4 73 yX4_cell, Cond.instanceMethod yX4_cell, Cond.selects RX4 yX4_cell yX4_cell, Cond.code yX4_cell cX4_cell 3 (some .int), Cond.fieldLink RX4 9 "RiverModel$Model" "cells" "[I", Cond.methodLink RX0 45 yJ7_fill_d0a16, Cond.static yJ7_fill_d0a16, Cond.initialized RJ7, Cond.code yJ7_fill_d0a16 cJ7_fill_d0a16 5 none, Cond.methodLink RX0 51 yJ7_fill_53178, Cond.static yJ7_fill_53178, Cond.code yJ7_fill_53178 cJ7_fill_53178 4 none]
def wsX9_anew : List Cond := .code yX9_anew cX9_anew 2 (some .int) :: ((wsX9_anew_r1 ++ wsX9_anew_r2) ++ wsX90 ++ wsX00 ++ wsX40)
def wsX9_run_r1 : List Cond := [Cond.fieldLink RX9 29 "RiverModel" "isBuilt" "Z", Cond.fieldLink RX9 53 "RiverModel" "now" "LRiverModel$Course;", Cond.fieldLink RX9 144 "RiverModel$Course" "hours" "I", Cond.fieldLink RX9 19 "RiverModel" "model" "LRiverModel$Model;", Cond.fieldLink RX9 39 "RiverModel" "skyA" "LRiverModel$Sky;", Cond.methodLink RX9 99 yX9_isOutside, Cond.static yX9_isOutside, Cond.initialized RX9, Cond.code yX9_isOutside cX9_isOutside 3 (some .boolean), Cond.methodLink RX9 151 yX0_goHourBy, Cond.instanceMethod yX0_goHourBy, Cond.selects RX0 yX0_goHourBy yX0_goHourBy, Cond.initialized RX0, Cond.code yX0_goHourBy cX0_goHourBy 3 none, Cond.fieldLink RX0 35 "RiverModel$Course" "hours" "I", Cond.methodLink RX0 60 yX6_rainIn, Cond.instanceMethod yX6_rainIn, Cond.selects RX6 yX6_rainIn yX6_rainIn, Cond.initialized RX6, Cond.code yX6_rainIn cX6_rainIn 2 (some .int), Cond.fieldLink RX6 9 "RiverModel$Sky" "rains" "[I", Cond.methodLink RX0 65 yX6_tempIn, Cond.instanceMethod yX6_tempIn, Cond.selects RX6 yX6_tempIn yX6_tempIn]
def wsX9_run_r2 : List Cond := [Cond.code yX6_tempIn cX6_tempIn 2 (some .int), Cond.fieldLink RX6 15 "RiverModel$Sky" "temps" "[I", Cond.methodLink RX0 68 yX0_goHour, Cond.instanceMethod yX0_goHour, Cond.selects RX0 yX0_goHour yX0_goHour, Cond.code yX0_goHour cX0_goHour 7 none, Cond.fieldLink RX0 75 "RiverModel$Model" "many" "I", Cond.fieldLink RX0 15 "RiverModel$Course" "moved" "[J", Cond.methodLink RX0 72 yX0_bringDue, Cond.instanceMethod yX0_bringDue, Cond.selects RX0 yX0_bringDue yX0_bringDue, Cond.code yX0_bringDue cX0_bringDue 3 none, Cond.fieldLink RX0 9 "RiverModel$Course" "held" "[J", Cond.fieldLink RX0 22 "RiverModel$Course" "due" "[J", Cond.methodLink RX0 78 yX0_amountOf, Cond.instanceMethod yX0_amountOf, Cond.selects RX0 yX0_amountOf yX0_amountOf, Cond.code yX0_amountOf cX0_amountOf 11 (some .long), Cond.methodLink RX0 101 Lib.MathLoose.max_long.x, Cond.static Lib.MathLoose.max_long.x, Cond.initialized "java/lang/Math", Cond.code Lib.MathLoose.max_long.x Lib.MathLoose.max_long.code 4 (some .long), Cond.methodLink RX0 107 Lib.MathLoose.min_long.x, Cond.static Lib.MathLoose.min_long.x]
def wsX9_run_r3 : List Cond := [Cond.code Lib.MathLoose.min_long.x Lib.MathLoose.min_long.code 4 (some .long), Cond.constantLong RX0 117 (100), Cond.constantLong RX0 119 (10), Cond.methodLink RX0 86 yX4_cell, Cond.instanceMethod yX4_cell, Cond.selects RX4 yX4_cell yX4_cell, Cond.initialized RX4, Cond.code yX4_cell cX4_cell 3 (some .int), Cond.fieldLink RX4 9 "RiverModel$Model" "cells" "[I", Cond.static yX9_isNoStore, Cond.code yX9_isNoStore cX9_isNoStore 1 (some .boolean), Cond.methodLink RX0 94 yX0_leakOf, Cond.static yX0_leakOf, Cond.code yX0_leakOf cX0_leakOf 8 (some .long), Cond.methodLink RX0 98 yX4_capacityOf, Cond.instanceMethod yX4_capacityOf, Cond.selects RX4 yX4_capacityOf yX4_capacityOf, Cond.code yX4_capacityOf cX4_capacityOf 2 (some .int), Cond.fieldLink RX4 15 "RiverModel$Model" "storeItems" "[I", Cond.methodLink RX4 66 yX4_hasStore, Cond.instanceMethod yX4_hasStore, Cond.selects RX4 yX4_hasStore yX4_hasStore, Cond.code yX4_hasStore cX4_hasStore 2 (some .boolean), Cond.methodLink RX4 73 yX4_cell]
def wsX9_run_r4 : List Cond := [Cond.methodLink RX0 110 yX4_gateOf, Cond.instanceMethod yX4_gateOf, Cond.selects RX4 yX4_gateOf yX4_gateOf, Cond.code yX4_gateOf cX4_gateOf 3 (some .int), Cond.fieldLink RX4 28 "RiverModel$Model" "gates" "I", Cond.fieldLink RX4 18 "RiverModel$Model" "gateItems" "[I", Cond.methodLink RX0 113 yX0_openingOf, Cond.instanceMethod yX0_openingOf, Cond.selects RX0 yX0_openingOf yX0_openingOf, Cond.code yX0_openingOf cX0_openingOf 2 (some .long), Cond.fieldLink RX0 18 "RiverModel$Course" "openings" "[I", Cond.static yX9_isNoGate, Cond.code yX9_isNoGate cX9_isNoGate 1 (some .boolean), Cond.methodLink RX0 82 yX0_move, Cond.instanceMethod yX0_move, Cond.selects RX0 yX0_move yX0_move, Cond.code yX0_move cX0_move 8 none, Cond.fieldLink RX0 25 "RiverModel$Course" "rained" "J", Cond.fieldLink RX0 29 "RiverModel$Course" "air" "J", Cond.fieldLink RX0 32 "RiverModel$Course" "sea" "J", Cond.methodLink RX0 124 yX0_send, Cond.instanceMethod yX0_send, Cond.selects RX0 yX0_send yX0_send, Cond.code yX0_send cX0_send 5 none]
def wsX9_run : List Cond := .code yX9_run cX9_run 3 (some .int) :: ((wsX9_run_r1 ++ (wsX9_run_r2 ++ (wsX9_run_r3 ++ wsX9_run_r4))) ++ wsX90 ++ wsX00 ++ wsX60 ++ wsX40)
def wsX9_lacksStore : List Cond := .code yX9_lacksStore cX9_lacksStore 2 (some .boolean) :: ([.fieldLink RX9 29 "RiverModel" "isBuilt" "Z", .fieldLink RX9 19 "RiverModel" "model" "LRiverModel$Model;", .methodLink RX9 343 yX4_hasStore, .instanceMethod yX4_hasStore, .selects RX4 yX4_hasStore yX4_hasStore, .initialized RX4, .code yX4_hasStore cX4_hasStore 2 (some .boolean), .fieldLink RX4 15 "RiverModel$Model" "storeItems" "[I"] ++ wsX90 ++ wsX40)
def wsX9_has_r1 : List Cond := [Cond.constantLong RX9 158 (-1), Cond.constantLong RX9 163 (-2), Cond.fieldLink RX9 53 "RiverModel" "now" "LRiverModel$Course;", Cond.fieldLink RX9 165 "RiverModel$Course" "held" "[J", Cond.methodLink RX9 155 yX9_isNoStore, Cond.static yX9_isNoStore, Cond.initialized RX9, Cond.code yX9_isNoStore cX9_isNoStore 1 (some .boolean), Cond.methodLink RX9 99 yX9_isOutside, Cond.static yX9_isOutside, Cond.code yX9_isOutside cX9_isOutside 3 (some .boolean), Cond.methodLink RX9 160 yX9_lacksStore, Cond.instanceMethod yX9_lacksStore, Cond.selects RX9 yX9_lacksStore yX9_lacksStore, Cond.code yX9_lacksStore cX9_lacksStore 2 (some .boolean), Cond.fieldLink RX9 29 "RiverModel" "isBuilt" "Z", Cond.fieldLink RX9 19 "RiverModel" "model" "LRiverModel$Model;", Cond.methodLink RX9 343 yX4_hasStore, Cond.instanceMethod yX4_hasStore, Cond.selects RX4 yX4_hasStore yX4_hasStore, Cond.initialized RX4, Cond.code yX4_hasStore cX4_hasStore 2 (some .boolean), Cond.fieldLink RX4 15 "RiverModel$Model" "storeItems" "[I", Cond.methodLink RX9 169 yX0_underWayTo]
def wsX9_has_r2 : List Cond := [Cond.instanceMethod yX0_underWayTo, Cond.selects RX0 yX0_underWayTo yX0_underWayTo, Cond.initialized RX0, Cond.code yX0_underWayTo cX0_underWayTo 5 (some .long), Cond.fieldLink RX0 22 "RiverModel$Course" "due" "[J"]
def wsX9_has : List Cond := .code yX9_has cX9_has 3 (some .long) :: ((wsX9_has_r1 ++ wsX9_has_r2) ++ wsX90 ++ wsX00 ++ wsX40)
def wsX9_flow : List Cond := .code yX9_flow cX9_flow 2 (some .long) :: ([.constantLong RX9 158 (-1), .fieldLink RX9 53 "RiverModel" "now" "LRiverModel$Course;", .fieldLink RX9 144 "RiverModel$Course" "hours" "I", .constantLong RX9 163 (-2), .fieldLink RX9 173 "RiverModel$Course" "moved" "[J", .methodLink RX9 127 yX9_isNoItem, .static yX9_isNoItem, .initialized RX9, .code yX9_isNoItem cX9_isNoItem 1 (some .boolean), .methodLink RX9 131 yX9_lacksItem, .instanceMethod yX9_lacksItem, .selects RX9 yX9_lacksItem yX9_lacksItem, .code yX9_lacksItem cX9_lacksItem 2 (some .boolean), .fieldLink RX9 29 "RiverModel" "isBuilt" "Z", .fieldLink RX9 19 "RiverModel" "model" "LRiverModel$Model;", .fieldLink RX9 124 "RiverModel$Model" "many" "I"] ++ wsX90 ++ wsX00 ++ wsX40)
def wsX9_lacksGate : List Cond := .code yX9_lacksGate cX9_lacksGate 2 (some .boolean) :: ([.fieldLink RX9 29 "RiverModel" "isBuilt" "Z", .fieldLink RX9 19 "RiverModel" "model" "LRiverModel$Model;", .fieldLink RX9 333 "RiverModel$Model" "gates" "I"] ++ wsX90 ++ wsX40)
def wsX9_gate : List Cond := .code yX9_gate cX9_gate 4 (some .int) :: ([.fieldLink RX9 53 "RiverModel" "now" "LRiverModel$Course;", .fieldLink RX9 182 "RiverModel$Course" "openings" "[I", .methodLink RX9 176 yX9_isNoGate, .static yX9_isNoGate, .initialized RX9, .code yX9_isNoGate cX9_isNoGate 1 (some .boolean), .methodLink RX9 99 yX9_isOutside, .static yX9_isOutside, .code yX9_isOutside cX9_isOutside 3 (some .boolean), .methodLink RX9 179 yX9_lacksGate, .instanceMethod yX9_lacksGate, .selects RX9 yX9_lacksGate yX9_lacksGate, .code yX9_lacksGate cX9_lacksGate 2 (some .boolean), .fieldLink RX9 29 "RiverModel" "isBuilt" "Z", .fieldLink RX9 19 "RiverModel" "model" "LRiverModel$Model;", .fieldLink RX9 333 "RiverModel$Model" "gates" "I"] ++ wsX90 ++ wsX00 ++ wsX40)
def wsX9_book_r1 : List Cond := [Cond.constantLong RX9 158 (-1), Cond.fieldLink RX9 29 "RiverModel" "isBuilt" "Z", Cond.constantLong RX9 163 (-2), Cond.fieldLink RX9 53 "RiverModel" "now" "LRiverModel$Course;", Cond.fieldLink RX9 185 "RiverModel$Course" "rained" "J", Cond.fieldLink RX9 189 "RiverModel$Course" "air" "J", Cond.fieldLink RX9 192 "RiverModel$Course" "sea" "J", Cond.fieldLink RX9 19 "RiverModel" "model" "LRiverModel$Model;", Cond.methodLink RX9 99 yX9_isOutside, Cond.static yX9_isOutside, Cond.initialized RX9, Cond.code yX9_isOutside cX9_isOutside 3 (some .boolean), Cond.methodLink RX9 195 yX0_heldByAll, Cond.instanceMethod yX0_heldByAll, Cond.selects RX0 yX0_heldByAll yX0_heldByAll, Cond.initialized RX0, Cond.code yX0_heldByAll cX0_heldByAll 4 (some .long), Cond.fieldLink RX0 9 "RiverModel$Course" "held" "[J", Cond.methodLink RX9 199 yX0_underWayToAll, Cond.instanceMethod yX0_underWayToAll, Cond.selects RX0 yX0_underWayToAll yX0_underWayToAll, Cond.code yX0_underWayToAll cX0_underWayToAll 4 (some .long), Cond.fieldLink RX0 22 "RiverModel$Course" "due" "[J", Cond.methodLink RX9 202 yX4_startOfAll]
def wsX9_book_r2 : List Cond := [Cond.instanceMethod yX4_startOfAll, Cond.selects RX4 yX4_startOfAll yX4_startOfAll, Cond.initialized RX4, Cond.code yX4_startOfAll cX4_startOfAll 4 (some .long), Cond.methodLink RX4 90 yX4_startOf, Cond.instanceMethod yX4_startOf, Cond.selects RX4 yX4_startOf yX4_startOf, Cond.code yX4_startOf cX4_startOf 2 (some .int), Cond.fieldLink RX4 15 "RiverModel$Model" "storeItems" "[I", Cond.methodLink RX4 66 yX4_hasStore, Cond.instanceMethod yX4_hasStore, Cond.selects RX4 yX4_hasStore yX4_hasStore, Cond.code yX4_hasStore cX4_hasStore 2 (some .boolean), Cond.methodLink RX4 73 yX4_cell, Cond.instanceMethod yX4_cell, Cond.selects RX4 yX4_cell yX4_cell, Cond.code yX4_cell cX4_cell 3 (some .int), Cond.fieldLink RX4 9 "RiverModel$Model" "cells" "[I"]
def wsX9_book : List Cond := .code yX9_book cX9_book 2 (some .long) :: ((wsX9_book_r1 ++ wsX9_book_r2) ++ wsX90 ++ wsX00 ++ wsX40)
def wsX9_gauge_r1 : List Cond := [Cond.fieldLink RX9 74 "RiverModel" "gauges" "LRiverModel$Gauges;", Cond.methodLink RX9 205 yX9_isNoGauge, Cond.static yX9_isNoGauge, Cond.initialized RX9, Cond.code yX9_isNoGauge cX9_isNoGauge 1 (some .boolean), Cond.methodLink RX9 99 yX9_isOutside, Cond.static yX9_isOutside, Cond.code yX9_isOutside cX9_isOutside 3 (some .boolean), Cond.methodLink RX9 127 yX9_isNoItem, Cond.static yX9_isNoItem, Cond.code yX9_isNoItem cX9_isNoItem 1 (some .boolean), Cond.methodLink RX9 155 yX9_isNoStore, Cond.static yX9_isNoStore, Cond.code yX9_isNoStore cX9_isNoStore 1 (some .boolean), Cond.methodLink RX9 131 yX9_lacksItem, Cond.instanceMethod yX9_lacksItem, Cond.selects RX9 yX9_lacksItem yX9_lacksItem, Cond.code yX9_lacksItem cX9_lacksItem 2 (some .boolean), Cond.fieldLink RX9 29 "RiverModel" "isBuilt" "Z", Cond.fieldLink RX9 19 "RiverModel" "model" "LRiverModel$Model;", Cond.fieldLink RX9 124 "RiverModel$Model" "many" "I", Cond.methodLink RX9 160 yX9_lacksStore, Cond.instanceMethod yX9_lacksStore, Cond.selects RX9 yX9_lacksStore yX9_lacksStore]
def wsX9_gauge_r2 : List Cond := [Cond.code yX9_lacksStore cX9_lacksStore 2 (some .boolean), Cond.methodLink RX9 343 yX4_hasStore, Cond.instanceMethod yX4_hasStore, Cond.selects RX4 yX4_hasStore yX4_hasStore, Cond.initialized RX4, Cond.code yX4_hasStore cX4_hasStore 2 (some .boolean), Cond.fieldLink RX4 15 "RiverModel$Model" "storeItems" "[I", Cond.methodLink RX9 208 yX1_set, Cond.instanceMethod yX1_set, Cond.selects RX1 yX1_set yX1_set, Cond.initialized RX1, Cond.code yX1_set cX1_set 5 none, Cond.fieldLink RX1 9 "RiverModel$Gauges" "whats" "[I", Cond.fieldLink RX1 15 "RiverModel$Gauges" "places" "[I", Cond.fieldLink RX1 18 "RiverModel$Gauges" "seen" "[I"]
def wsX9_gauge : List Cond := .code yX9_gauge cX9_gauge 4 (some .int) :: ((wsX9_gauge_r1 ++ wsX9_gauge_r2) ++ wsX90 ++ wsX40 ++ wsX10)
def wsX9_lacksGauge : List Cond := .code yX9_lacksGauge cX9_lacksGauge 2 (some .boolean) :: ([.fieldLink RX9 29 "RiverModel" "isBuilt" "Z", .fieldLink RX9 74 "RiverModel" "gauges" "LRiverModel$Gauges;", .methodLink RX9 346 yX1_isSet, .instanceMethod yX1_isSet, .selects RX1 yX1_isSet yX1_isSet, .initialized RX1, .code yX1_isSet cX1_isSet 2 (some .boolean), .fieldLink RX1 9 "RiverModel$Gauges" "whats" "[I"] ++ wsX90 ++ wsX10)
def wsX9_reads_r1 : List Cond := [Cond.constantLong RX9 158 (-1), Cond.fieldLink RX9 53 "RiverModel" "now" "LRiverModel$Course;", Cond.fieldLink RX9 144 "RiverModel$Course" "hours" "I", Cond.constantLong RX9 163 (-2), Cond.fieldLink RX9 74 "RiverModel" "gauges" "LRiverModel$Gauges;", Cond.methodLink RX9 205 yX9_isNoGauge, Cond.static yX9_isNoGauge, Cond.initialized RX9, Cond.code yX9_isNoGauge cX9_isNoGauge 1 (some .boolean), Cond.methodLink RX9 212 yX9_lacksGauge, Cond.instanceMethod yX9_lacksGauge, Cond.selects RX9 yX9_lacksGauge yX9_lacksGauge, Cond.code yX9_lacksGauge cX9_lacksGauge 2 (some .boolean), Cond.fieldLink RX9 29 "RiverModel" "isBuilt" "Z", Cond.methodLink RX9 346 yX1_isSet, Cond.instanceMethod yX1_isSet, Cond.selects RX1 yX1_isSet yX1_isSet, Cond.initialized RX1, Cond.code yX1_isSet cX1_isSet 2 (some .boolean), Cond.fieldLink RX1 9 "RiverModel$Gauges" "whats" "[I", Cond.methodLink RX9 215 yX1_reading, Cond.instanceMethod yX1_reading, Cond.selects RX1 yX1_reading yX1_reading, Cond.code yX1_reading cX1_reading 4 (some .long)]
def wsX9_reads_r2 : List Cond := [Cond.fieldLink RX1 15 "RiverModel$Gauges" "places" "[I", Cond.fieldLink RX1 41 "RiverModel$Course" "moved" "[J", Cond.fieldLink RX1 50 "RiverModel$Course" "held" "[J", Cond.methodLink RX1 35 yX1_isSet, Cond.static yX9_isNoItem, Cond.code yX9_isNoItem cX9_isNoItem 1 (some .boolean), Cond.static yX9_isNoStore, Cond.code yX9_isNoStore cX9_isNoStore 1 (some .boolean)]
def wsX9_reads : List Cond := .code yX9_reads cX9_reads 2 (some .long) :: ((wsX9_reads_r1 ++ wsX9_reads_r2) ++ wsX90 ++ wsX00 ++ wsX10)
def wsX9_see_r1 : List Cond := [Cond.constant RX9 219 (10000000), Cond.fieldLink RX9 74 "RiverModel" "gauges" "LRiverModel$Gauges;", Cond.methodLink RX9 205 yX9_isNoGauge, Cond.static yX9_isNoGauge, Cond.initialized RX9, Cond.code yX9_isNoGauge cX9_isNoGauge 1 (some .boolean), Cond.methodLink RX9 99 yX9_isOutside, Cond.static yX9_isOutside, Cond.code yX9_isOutside cX9_isOutside 3 (some .boolean), Cond.methodLink RX9 212 yX9_lacksGauge, Cond.instanceMethod yX9_lacksGauge, Cond.selects RX9 yX9_lacksGauge yX9_lacksGauge, Cond.code yX9_lacksGauge cX9_lacksGauge 2 (some .boolean), Cond.fieldLink RX9 29 "RiverModel" "isBuilt" "Z", Cond.methodLink RX9 346 yX1_isSet, Cond.instanceMethod yX1_isSet, Cond.selects RX1 yX1_isSet yX1_isSet, Cond.initialized RX1, Cond.code yX1_isSet cX1_isSet 2 (some .boolean), Cond.fieldLink RX1 9 "RiverModel$Gauges" "whats" "[I", Cond.methodLink RX9 220 yX1_putSeen, Cond.instanceMethod yX1_putSeen, Cond.selects RX1 yX1_putSeen yX1_putSeen, Cond.code yX1_putSeen cX1_putSeen 5 (some .int)]
def wsX9_see_r2 : List Cond := [Cond.fieldLink RX1 18 "RiverModel$Gauges" "seen" "[I"]
def wsX9_see : List Cond := .code yX9_see cX9_see 4 (some .int) :: ((wsX9_see_r1 ++ wsX9_see_r2) ++ wsX90 ++ wsX10)
def wsX9_ends : List Cond := .code yX9_ends cX9_ends 3 (some .int) :: ([.constant RX9 224 (100000), .fieldLink RX9 74 "RiverModel" "gauges" "LRiverModel$Gauges;", .fieldLink RX9 225 "RiverModel$Gauges" "mayBeOff" "I", .methodLink RX9 99 yX9_isOutside, .static yX9_isOutside, .initialized RX9, .code yX9_isOutside cX9_isOutside 3 (some .boolean)] ++ wsX90 ++ wsX10)
def wsX9_knob_r1 : List Cond := [Cond.constant RX9 231 (1000000), Cond.fieldLink RX9 19 "RiverModel" "model" "LRiverModel$Model;", Cond.fieldLink RX9 81 "RiverModel" "knobs" "LRiverModel$Knobs;", Cond.methodLink RX9 228 yX9_isNoKnob, Cond.static yX9_isNoKnob, Cond.initialized RX9, Cond.code yX9_isNoKnob cX9_isNoKnob 1 (some .boolean), Cond.methodLink RX9 127 yX9_isNoItem, Cond.static yX9_isNoItem, Cond.code yX9_isNoItem cX9_isNoItem 1 (some .boolean), Cond.methodLink RX9 99 yX9_isOutside, Cond.static yX9_isOutside, Cond.code yX9_isOutside cX9_isOutside 3 (some .boolean), Cond.methodLink RX9 131 yX9_lacksItem, Cond.instanceMethod yX9_lacksItem, Cond.selects RX9 yX9_lacksItem yX9_lacksItem, Cond.code yX9_lacksItem cX9_lacksItem 2 (some .boolean), Cond.fieldLink RX9 29 "RiverModel" "isBuilt" "Z", Cond.fieldLink RX9 124 "RiverModel$Model" "many" "I", Cond.methodLink RX9 232 yX4_hasNumber, Cond.instanceMethod yX4_hasNumber, Cond.selects RX4 yX4_hasNumber yX4_hasNumber, Cond.initialized RX4, Cond.code yX4_hasNumber cX4_hasNumber 3 (some .boolean)]
def wsX9_knob_r2 : List Cond := [Cond.methodLink RX4 73 yX4_cell, Cond.instanceMethod yX4_cell, Cond.selects RX4 yX4_cell yX4_cell, Cond.code yX4_cell cX4_cell 3 (some .int), Cond.fieldLink RX4 9 "RiverModel$Model" "cells" "[I", Cond.methodLink RX4 86 yX2_numbersOf, Cond.static yX2_numbersOf, Cond.initialized RX2, Cond.code yX2_numbersOf cX2_numbersOf 1 (some .int), Cond.methodLink RX9 236 yX3_set, Cond.instanceMethod yX3_set, Cond.selects RX3 yX3_set yX3_set, Cond.initialized RX3, Cond.code yX3_set cX3_set 7 none, Cond.fieldLink RX3 9 "RiverModel$Knobs" "items" "[I", Cond.fieldLink RX3 15 "RiverModel$Knobs" "numbers" "[I", Cond.fieldLink RX3 18 "RiverModel$Knobs" "froms" "[I", Cond.fieldLink RX3 21 "RiverModel$Knobs" "steps" "[I", Cond.fieldLink RX3 24 "RiverModel$Knobs" "manys" "[I"]
def wsX9_knob : List Cond := .code yX9_knob cX9_knob 7 (some .int) :: ((wsX9_knob_r1 ++ wsX9_knob_r2) ++ wsX90 ++ wsX40 ++ wsX30)
def wsX9_pointHolds_r1 : List Cond := [Cond.fieldLink RX9 23 "RiverModel" "draft" "LRiverModel$Model;", Cond.fieldLink RX9 19 "RiverModel" "model" "LRiverModel$Model;", Cond.fieldLink RX9 81 "RiverModel" "knobs" "LRiverModel$Knobs;", Cond.fieldLink RX9 57 "RiverModel" "trial" "LRiverModel$Course;", Cond.fieldLink RX9 74 "RiverModel" "gauges" "LRiverModel$Gauges;", Cond.fieldLink RX9 39 "RiverModel" "skyA" "LRiverModel$Sky;", Cond.methodLink RX9 316 yX4_copyFrom, Cond.instanceMethod yX4_copyFrom, Cond.selects RX4 yX4_copyFrom yX4_copyFrom, Cond.initialized RX4, Cond.code yX4_copyFrom cX4_copyFrom 2 none, Cond.fieldLink RX4 9 "RiverModel$Model" "cells" "[I", Cond.methodLink RX4 37 arraycopyName, Cond.native arraycopyName, Cond.static arraycopyName, Cond.initialized "java/lang/System", Cond.fieldLink RX4 15 "RiverModel$Model" "storeItems" "[I", Cond.fieldLink RX4 18 "RiverModel$Model" "gateItems" "[I", Cond.fieldLink RX4 21 "RiverModel$Model" "many" "I", Cond.fieldLink RX4 25 "RiverModel$Model" "stores" "I", Cond.fieldLink RX4 28 "RiverModel$Model" "gates" "I", Cond.methodLink RX9 350 yX3_lay, Cond.instanceMethod yX3_lay, Cond.selects RX3 yX3_lay yX3_lay]
def wsX9_pointHolds_r2 : List Cond := [Cond.initialized RX3, Cond.code yX3_lay cX3_lay 4 (some .boolean), Cond.fieldLink RX3 9 "RiverModel$Knobs" "items" "[I", Cond.fieldLink RX3 15 "RiverModel$Knobs" "numbers" "[I", Cond.methodLink RX3 37 yX3_isSet, Cond.instanceMethod yX3_isSet, Cond.selects RX3 yX3_isSet yX3_isSet, Cond.code yX3_isSet cX3_isSet 2 (some .boolean), Cond.fieldLink RX3 24 "RiverModel$Knobs" "manys" "[I", Cond.methodLink RX3 50 yX4_hasNumber, Cond.instanceMethod yX4_hasNumber, Cond.selects RX4 yX4_hasNumber yX4_hasNumber, Cond.code yX4_hasNumber cX4_hasNumber 3 (some .boolean), Cond.methodLink RX4 73 yX4_cell, Cond.instanceMethod yX4_cell, Cond.selects RX4 yX4_cell yX4_cell, Cond.code yX4_cell cX4_cell 3 (some .int), Cond.methodLink RX4 86 yX2_numbersOf, Cond.static yX2_numbersOf, Cond.initialized RX2, Cond.code yX2_numbersOf cX2_numbersOf 1 (some .int), Cond.methodLink RX3 56 yX3_numberAt, Cond.instanceMethod yX3_numberAt, Cond.selects RX3 yX3_numberAt yX3_numberAt]
def wsX9_pointHolds_r3 : List Cond := [Cond.code yX3_numberAt cX3_numberAt 4 (some .int), Cond.methodLink RX3 44 Lib.Math.max.name, Cond.static Lib.Math.max.name, Cond.initialized "java/lang/Math", Cond.code Lib.Math.max.name Lib.Math.max.code 2 (some .int), Cond.fieldLink RX3 18 "RiverModel$Knobs" "froms" "[I", Cond.fieldLink RX3 21 "RiverModel$Knobs" "steps" "[I", Cond.static yX9_isNoKnob, Cond.initialized RX9, Cond.code yX9_isNoKnob cX9_isNoKnob 1 (some .boolean), Cond.methodLink RX3 40 yX3_pointsOf, Cond.instanceMethod yX3_pointsOf, Cond.selects RX3 yX3_pointsOf yX3_pointsOf, Cond.code yX3_pointsOf cX3_pointsOf 2 (some .int), Cond.methodLink RX3 59 yX4_putCell, Cond.instanceMethod yX4_putCell, Cond.selects RX4 yX4_putCell yX4_putCell, Cond.code yX4_putCell cX4_putCell 4 none, Cond.static yX9_isNoItem, Cond.code yX9_isNoItem cX9_isNoItem 1 (some .boolean), Cond.static yX9_isOutside, Cond.code yX9_isOutside cX9_isOutside 3 (some .boolean), Cond.methodLink RX3 63 yX4_isItemAsTold, Cond.instanceMethod yX4_isItemAsTold]
def wsX9_pointHolds_r4 : List Cond := [Cond.selects RX4 yX4_isItemAsTold yX4_isItemAsTold, Cond.code yX4_isItemAsTold cX4_isItemAsTold 2 (some .boolean), Cond.methodLink RX4 77 yX2_areNumbersAsTold, Cond.static yX2_areNumbersAsTold, Cond.code yX2_areNumbersAsTold cX2_areNumbersAsTold 4 (some .boolean), Cond.constant RX2 9 (1000000), Cond.methodLink RX2 10 yX2_isUpTo, Cond.static yX2_isUpTo, Cond.code yX2_isUpTo cX2_isUpTo 2 (some .boolean), Cond.methodLink RX9 147 yX0_begin, Cond.instanceMethod yX0_begin, Cond.selects RX0 yX0_begin yX0_begin, Cond.initialized RX0, Cond.code yX0_begin cX0_begin 3 none, Cond.fieldLink RX0 9 "RiverModel$Course" "held" "[J", Cond.fieldLink RX0 15 "RiverModel$Course" "moved" "[J", Cond.fieldLink RX0 18 "RiverModel$Course" "openings" "[I", Cond.fieldLink RX0 22 "RiverModel$Course" "due" "[J", Cond.fieldLink RX0 25 "RiverModel$Course" "rained" "J", Cond.fieldLink RX0 29 "RiverModel$Course" "air" "J", Cond.fieldLink RX0 32 "RiverModel$Course" "sea" "J", Cond.fieldLink RX0 35 "RiverModel$Course" "hours" "I", Cond.methodLink RX0 39 yX4_startOf, Cond.instanceMethod yX4_startOf]
def wsX9_pointHolds_r5 : List Cond := [Cond.selects RX4 yX4_startOf yX4_startOf, Cond.code yX4_startOf cX4_startOf 2 (some .int), Cond.methodLink RX4 66 yX4_hasStore, Cond.instanceMethod yX4_hasStore, Cond.selects RX4 yX4_hasStore yX4_hasStore, Cond.code yX4_hasStore cX4_hasStore 2 (some .boolean), Cond.methodLink RX0 45 yJ7_fill_d0a16, Cond.static yJ7_fill_d0a16, Cond.initialized RJ7, Cond.code yJ7_fill_d0a16 cJ7_fill_d0a16 5 none, Cond.methodLink RX0 51 yJ7_fill_53178, Cond.static yJ7_fill_53178, Cond.code yJ7_fill_53178 cJ7_fill_53178 4 none, Cond.methodLink RX9 354 yX1_lastSeen, Cond.instanceMethod yX1_lastSeen, Cond.selects RX1 yX1_lastSeen yX1_lastSeen, Cond.initialized RX1, Cond.code yX1_lastSeen cX1_lastSeen 3 (some .int), Cond.fieldLink RX1 18 "RiverModel$Gauges" "seen" "[I", Cond.methodLink RX1 67 Lib.Math.max.name, Cond.methodLink RX9 357 yX6_rainIn, Cond.instanceMethod yX6_rainIn, Cond.selects RX6 yX6_rainIn yX6_rainIn, Cond.initialized RX6]
def wsX9_pointHolds_r6 : List Cond := [Cond.code yX6_rainIn cX6_rainIn 2 (some .int), Cond.fieldLink RX6 9 "RiverModel$Sky" "rains" "[I", Cond.methodLink RX9 360 yX6_tempIn, Cond.instanceMethod yX6_tempIn, Cond.selects RX6 yX6_tempIn yX6_tempIn, Cond.code yX6_tempIn cX6_tempIn 2 (some .int), Cond.fieldLink RX6 15 "RiverModel$Sky" "temps" "[I", Cond.methodLink RX9 363 yX0_goHour, Cond.instanceMethod yX0_goHour, Cond.selects RX0 yX0_goHour yX0_goHour, Cond.code yX0_goHour cX0_goHour 7 none, Cond.fieldLink RX0 75 "RiverModel$Model" "many" "I", Cond.methodLink RX0 72 yX0_bringDue, Cond.instanceMethod yX0_bringDue, Cond.selects RX0 yX0_bringDue yX0_bringDue, Cond.code yX0_bringDue cX0_bringDue 3 none, Cond.methodLink RX0 78 yX0_amountOf, Cond.instanceMethod yX0_amountOf, Cond.selects RX0 yX0_amountOf yX0_amountOf, Cond.code yX0_amountOf cX0_amountOf 11 (some .long), Cond.methodLink RX0 101 Lib.MathLoose.max_long.x, Cond.static Lib.MathLoose.max_long.x, Cond.code Lib.MathLoose.max_long.x Lib.MathLoose.max_long.code 4 (some .long), Cond.methodLink RX0 107 Lib.MathLoose.min_long.x]
def wsX9_pointHolds_r7 : List Cond := [Cond.static Lib.MathLoose.min_long.x, Cond.code Lib.MathLoose.min_long.x Lib.MathLoose.min_long.code 4 (some .long), Cond.constantLong RX0 117 (100), Cond.constantLong RX0 119 (10), Cond.methodLink RX0 86 yX4_cell, Cond.static yX9_isNoStore, Cond.code yX9_isNoStore cX9_isNoStore 1 (some .boolean), Cond.methodLink RX0 94 yX0_leakOf, Cond.static yX0_leakOf, Cond.code yX0_leakOf cX0_leakOf 8 (some .long), Cond.methodLink RX0 98 yX4_capacityOf, Cond.instanceMethod yX4_capacityOf, Cond.selects RX4 yX4_capacityOf yX4_capacityOf, Cond.code yX4_capacityOf cX4_capacityOf 2 (some .int), Cond.methodLink RX0 110 yX4_gateOf, Cond.instanceMethod yX4_gateOf, Cond.selects RX4 yX4_gateOf yX4_gateOf, Cond.code yX4_gateOf cX4_gateOf 3 (some .int), Cond.methodLink RX0 113 yX0_openingOf, Cond.instanceMethod yX0_openingOf, Cond.selects RX0 yX0_openingOf yX0_openingOf, Cond.code yX0_openingOf cX0_openingOf 2 (some .long), Cond.static yX9_isNoGate, Cond.code yX9_isNoGate cX9_isNoGate 1 (some .boolean)]
def wsX9_pointHolds_r8 : List Cond := [Cond.methodLink RX0 82 yX0_move, Cond.instanceMethod yX0_move, Cond.selects RX0 yX0_move yX0_move, Cond.code yX0_move cX0_move 8 none, Cond.methodLink RX0 124 yX0_send, Cond.instanceMethod yX0_send, Cond.selects RX0 yX0_send yX0_send, Cond.code yX0_send cX0_send 5 none, Cond.methodLink RX9 367 yX1_agree, Cond.instanceMethod yX1_agree, Cond.selects RX1 yX1_agree yX1_agree, Cond.code yX1_agree cX1_agree 5 (some .boolean), Cond.methodLink RX1 61 Lib.MathLoose.abs_long.x, Cond.static Lib.MathLoose.abs_long.x, Cond.code Lib.MathLoose.abs_long.x Lib.MathLoose.abs_long.code 2 (some .long), Cond.fieldLink RX1 21 "RiverModel$Gauges" "mayBeOff" "I", Cond.methodLink RX1 57 yX1_reading, Cond.instanceMethod yX1_reading, Cond.selects RX1 yX1_reading yX1_reading, Cond.code yX1_reading cX1_reading 4 (some .long), Cond.fieldLink RX1 15 "RiverModel$Gauges" "places" "[I", Cond.fieldLink RX1 9 "RiverModel$Gauges" "whats" "[I", Cond.fieldLink RX1 41 "RiverModel$Course" "moved" "[J", Cond.fieldLink RX1 50 "RiverModel$Course" "held" "[J"]
def wsX9_pointHolds_r9 : List Cond := [Cond.methodLink RX1 35 yX1_isSet, Cond.instanceMethod yX1_isSet, Cond.selects RX1 yX1_isSet yX1_isSet, Cond.code yX1_isSet cX1_isSet 2 (some .boolean)]
def wsX9_pointHolds : List Cond := .code yX9_pointHolds cX9_pointHolds 4 (some .boolean) :: ((wsX9_pointHolds_r1 ++ (wsX9_pointHolds_r2 ++ (wsX9_pointHolds_r3 ++ (wsX9_pointHolds_r4 ++ (wsX9_pointHolds_r5 ++ (wsX9_pointHolds_r6 ++ (wsX9_pointHolds_r7 ++ (wsX9_pointHolds_r8 ++ wsX9_pointHolds_r9)))))))) ++ wsX90 ++ wsX40 ++ wsX30 ++ wsX00 ++ wsX10 ++ wsX60)
def wsX9_fits_r1 : List Cond := [Cond.fieldLink RX9 29 "RiverModel" "isBuilt" "Z", Cond.fieldLink RX9 81 "RiverModel" "knobs" "LRiverModel$Knobs;", Cond.methodLink RX9 239 yX3_points, Cond.instanceMethod yX3_points, Cond.selects RX3 yX3_points yX3_points, Cond.initialized RX3, Cond.code yX3_points cX3_points 1 (some .int), Cond.methodLink RX3 40 yX3_pointsOf, Cond.instanceMethod yX3_pointsOf, Cond.selects RX3 yX3_pointsOf yX3_pointsOf, Cond.code yX3_pointsOf cX3_pointsOf 2 (some .int), Cond.fieldLink RX3 24 "RiverModel$Knobs" "manys" "[I", Cond.methodLink RX3 37 yX3_isSet, Cond.instanceMethod yX3_isSet, Cond.selects RX3 yX3_isSet yX3_isSet, Cond.code yX3_isSet cX3_isSet 2 (some .boolean), Cond.methodLink RX9 243 yX9_pointHolds, Cond.instanceMethod yX9_pointHolds, Cond.selects RX9 yX9_pointHolds yX9_pointHolds, Cond.initialized RX9, Cond.code yX9_pointHolds cX9_pointHolds 4 (some .boolean), Cond.fieldLink RX9 23 "RiverModel" "draft" "LRiverModel$Model;", Cond.fieldLink RX9 19 "RiverModel" "model" "LRiverModel$Model;", Cond.fieldLink RX9 57 "RiverModel" "trial" "LRiverModel$Course;"]
def wsX9_fits_r2 : List Cond := [Cond.fieldLink RX9 74 "RiverModel" "gauges" "LRiverModel$Gauges;", Cond.fieldLink RX9 39 "RiverModel" "skyA" "LRiverModel$Sky;", Cond.methodLink RX9 316 yX4_copyFrom, Cond.instanceMethod yX4_copyFrom, Cond.selects RX4 yX4_copyFrom yX4_copyFrom, Cond.initialized RX4, Cond.code yX4_copyFrom cX4_copyFrom 2 none, Cond.fieldLink RX4 9 "RiverModel$Model" "cells" "[I", Cond.methodLink RX4 37 arraycopyName, Cond.native arraycopyName, Cond.static arraycopyName, Cond.initialized "java/lang/System", Cond.fieldLink RX4 15 "RiverModel$Model" "storeItems" "[I", Cond.fieldLink RX4 18 "RiverModel$Model" "gateItems" "[I", Cond.fieldLink RX4 21 "RiverModel$Model" "many" "I", Cond.fieldLink RX4 25 "RiverModel$Model" "stores" "I", Cond.fieldLink RX4 28 "RiverModel$Model" "gates" "I", Cond.methodLink RX9 350 yX3_lay, Cond.instanceMethod yX3_lay, Cond.selects RX3 yX3_lay yX3_lay, Cond.code yX3_lay cX3_lay 4 (some .boolean), Cond.fieldLink RX3 9 "RiverModel$Knobs" "items" "[I", Cond.fieldLink RX3 15 "RiverModel$Knobs" "numbers" "[I", Cond.methodLink RX3 50 yX4_hasNumber]
def wsX9_fits_r3 : List Cond := [Cond.instanceMethod yX4_hasNumber, Cond.selects RX4 yX4_hasNumber yX4_hasNumber, Cond.code yX4_hasNumber cX4_hasNumber 3 (some .boolean), Cond.methodLink RX4 73 yX4_cell, Cond.instanceMethod yX4_cell, Cond.selects RX4 yX4_cell yX4_cell, Cond.code yX4_cell cX4_cell 3 (some .int), Cond.methodLink RX4 86 yX2_numbersOf, Cond.static yX2_numbersOf, Cond.initialized RX2, Cond.code yX2_numbersOf cX2_numbersOf 1 (some .int), Cond.methodLink RX3 56 yX3_numberAt, Cond.instanceMethod yX3_numberAt, Cond.selects RX3 yX3_numberAt yX3_numberAt, Cond.code yX3_numberAt cX3_numberAt 4 (some .int), Cond.methodLink RX3 44 Lib.Math.max.name, Cond.static Lib.Math.max.name, Cond.initialized "java/lang/Math", Cond.code Lib.Math.max.name Lib.Math.max.code 2 (some .int), Cond.fieldLink RX3 18 "RiverModel$Knobs" "froms" "[I", Cond.fieldLink RX3 21 "RiverModel$Knobs" "steps" "[I", Cond.static yX9_isNoKnob, Cond.code yX9_isNoKnob cX9_isNoKnob 1 (some .boolean), Cond.methodLink RX3 59 yX4_putCell]
def wsX9_fits_r4 : List Cond := [Cond.instanceMethod yX4_putCell, Cond.selects RX4 yX4_putCell yX4_putCell, Cond.code yX4_putCell cX4_putCell 4 none, Cond.static yX9_isNoItem, Cond.code yX9_isNoItem cX9_isNoItem 1 (some .boolean), Cond.static yX9_isOutside, Cond.code yX9_isOutside cX9_isOutside 3 (some .boolean), Cond.methodLink RX3 63 yX4_isItemAsTold, Cond.instanceMethod yX4_isItemAsTold, Cond.selects RX4 yX4_isItemAsTold yX4_isItemAsTold, Cond.code yX4_isItemAsTold cX4_isItemAsTold 2 (some .boolean), Cond.methodLink RX4 77 yX2_areNumbersAsTold, Cond.static yX2_areNumbersAsTold, Cond.code yX2_areNumbersAsTold cX2_areNumbersAsTold 4 (some .boolean), Cond.constant RX2 9 (1000000), Cond.methodLink RX2 10 yX2_isUpTo, Cond.static yX2_isUpTo, Cond.code yX2_isUpTo cX2_isUpTo 2 (some .boolean), Cond.methodLink RX9 147 yX0_begin, Cond.instanceMethod yX0_begin, Cond.selects RX0 yX0_begin yX0_begin, Cond.initialized RX0, Cond.code yX0_begin cX0_begin 3 none, Cond.fieldLink RX0 9 "RiverModel$Course" "held" "[J"]
def wsX9_fits_r5 : List Cond := [Cond.fieldLink RX0 15 "RiverModel$Course" "moved" "[J", Cond.fieldLink RX0 18 "RiverModel$Course" "openings" "[I", Cond.fieldLink RX0 22 "RiverModel$Course" "due" "[J", Cond.fieldLink RX0 25 "RiverModel$Course" "rained" "J", Cond.fieldLink RX0 29 "RiverModel$Course" "air" "J", Cond.fieldLink RX0 32 "RiverModel$Course" "sea" "J", Cond.fieldLink RX0 35 "RiverModel$Course" "hours" "I", Cond.methodLink RX0 39 yX4_startOf, Cond.instanceMethod yX4_startOf, Cond.selects RX4 yX4_startOf yX4_startOf, Cond.code yX4_startOf cX4_startOf 2 (some .int), Cond.methodLink RX4 66 yX4_hasStore, Cond.instanceMethod yX4_hasStore, Cond.selects RX4 yX4_hasStore yX4_hasStore, Cond.code yX4_hasStore cX4_hasStore 2 (some .boolean), Cond.methodLink RX0 45 yJ7_fill_d0a16, Cond.static yJ7_fill_d0a16, Cond.initialized RJ7, Cond.code yJ7_fill_d0a16 cJ7_fill_d0a16 5 none, Cond.methodLink RX0 51 yJ7_fill_53178, Cond.static yJ7_fill_53178, Cond.code yJ7_fill_53178 cJ7_fill_53178 4 none, Cond.methodLink RX9 354 yX1_lastSeen, Cond.instanceMethod yX1_lastSeen]
def wsX9_fits_r6 : List Cond := [Cond.selects RX1 yX1_lastSeen yX1_lastSeen, Cond.initialized RX1, Cond.code yX1_lastSeen cX1_lastSeen 3 (some .int), Cond.fieldLink RX1 18 "RiverModel$Gauges" "seen" "[I", Cond.methodLink RX1 67 Lib.Math.max.name, Cond.methodLink RX9 357 yX6_rainIn, Cond.instanceMethod yX6_rainIn, Cond.selects RX6 yX6_rainIn yX6_rainIn, Cond.initialized RX6, Cond.code yX6_rainIn cX6_rainIn 2 (some .int), Cond.fieldLink RX6 9 "RiverModel$Sky" "rains" "[I", Cond.methodLink RX9 360 yX6_tempIn, Cond.instanceMethod yX6_tempIn, Cond.selects RX6 yX6_tempIn yX6_tempIn, Cond.code yX6_tempIn cX6_tempIn 2 (some .int), Cond.fieldLink RX6 15 "RiverModel$Sky" "temps" "[I", Cond.methodLink RX9 363 yX0_goHour, Cond.instanceMethod yX0_goHour, Cond.selects RX0 yX0_goHour yX0_goHour, Cond.code yX0_goHour cX0_goHour 7 none, Cond.fieldLink RX0 75 "RiverModel$Model" "many" "I", Cond.methodLink RX0 72 yX0_bringDue, Cond.instanceMethod yX0_bringDue, Cond.selects RX0 yX0_bringDue yX0_bringDue]
def wsX9_fits_r7 : List Cond := [Cond.code yX0_bringDue cX0_bringDue 3 none, Cond.methodLink RX0 78 yX0_amountOf, Cond.instanceMethod yX0_amountOf, Cond.selects RX0 yX0_amountOf yX0_amountOf, Cond.code yX0_amountOf cX0_amountOf 11 (some .long), Cond.methodLink RX0 101 Lib.MathLoose.max_long.x, Cond.static Lib.MathLoose.max_long.x, Cond.code Lib.MathLoose.max_long.x Lib.MathLoose.max_long.code 4 (some .long), Cond.methodLink RX0 107 Lib.MathLoose.min_long.x, Cond.static Lib.MathLoose.min_long.x, Cond.code Lib.MathLoose.min_long.x Lib.MathLoose.min_long.code 4 (some .long), Cond.constantLong RX0 117 (100), Cond.constantLong RX0 119 (10), Cond.methodLink RX0 86 yX4_cell, Cond.static yX9_isNoStore, Cond.code yX9_isNoStore cX9_isNoStore 1 (some .boolean), Cond.methodLink RX0 94 yX0_leakOf, Cond.static yX0_leakOf, Cond.code yX0_leakOf cX0_leakOf 8 (some .long), Cond.methodLink RX0 98 yX4_capacityOf, Cond.instanceMethod yX4_capacityOf, Cond.selects RX4 yX4_capacityOf yX4_capacityOf, Cond.code yX4_capacityOf cX4_capacityOf 2 (some .int), Cond.methodLink RX0 110 yX4_gateOf]
def wsX9_fits_r8 : List Cond := [Cond.instanceMethod yX4_gateOf, Cond.selects RX4 yX4_gateOf yX4_gateOf, Cond.code yX4_gateOf cX4_gateOf 3 (some .int), Cond.methodLink RX0 113 yX0_openingOf, Cond.instanceMethod yX0_openingOf, Cond.selects RX0 yX0_openingOf yX0_openingOf, Cond.code yX0_openingOf cX0_openingOf 2 (some .long), Cond.static yX9_isNoGate, Cond.code yX9_isNoGate cX9_isNoGate 1 (some .boolean), Cond.methodLink RX0 82 yX0_move, Cond.instanceMethod yX0_move, Cond.selects RX0 yX0_move yX0_move, Cond.code yX0_move cX0_move 8 none, Cond.methodLink RX0 124 yX0_send, Cond.instanceMethod yX0_send, Cond.selects RX0 yX0_send yX0_send, Cond.code yX0_send cX0_send 5 none, Cond.methodLink RX9 367 yX1_agree, Cond.instanceMethod yX1_agree, Cond.selects RX1 yX1_agree yX1_agree, Cond.code yX1_agree cX1_agree 5 (some .boolean), Cond.methodLink RX1 61 Lib.MathLoose.abs_long.x, Cond.static Lib.MathLoose.abs_long.x, Cond.code Lib.MathLoose.abs_long.x Lib.MathLoose.abs_long.code 2 (some .long)]
def wsX9_fits_r9 : List Cond := [Cond.fieldLink RX1 21 "RiverModel$Gauges" "mayBeOff" "I", Cond.methodLink RX1 57 yX1_reading, Cond.instanceMethod yX1_reading, Cond.selects RX1 yX1_reading yX1_reading, Cond.code yX1_reading cX1_reading 4 (some .long), Cond.fieldLink RX1 15 "RiverModel$Gauges" "places" "[I", Cond.fieldLink RX1 9 "RiverModel$Gauges" "whats" "[I", Cond.fieldLink RX1 41 "RiverModel$Course" "moved" "[J", Cond.fieldLink RX1 50 "RiverModel$Course" "held" "[J", Cond.methodLink RX1 35 yX1_isSet, Cond.instanceMethod yX1_isSet, Cond.selects RX1 yX1_isSet yX1_isSet, Cond.code yX1_isSet cX1_isSet 2 (some .boolean)]
def wsX9_fits : List Cond := .code yX9_fits cX9_fits 4 (some .int) :: ((wsX9_fits_r1 ++ (wsX9_fits_r2 ++ (wsX9_fits_r3 ++ (wsX9_fits_r4 ++ (wsX9_fits_r5 ++ (wsX9_fits_r6 ++ (wsX9_fits_r7 ++ (wsX9_fits_r8 ++ wsX9_fits_r9)))))))) ++ wsX90 ++ wsX30 ++ wsX40 ++ wsX00 ++ wsX10 ++ wsX60)
def wsX9_holdingPoint_r1 : List Cond := [Cond.fieldLink RX9 81 "RiverModel" "knobs" "LRiverModel$Knobs;", Cond.methodLink RX9 239 yX3_points, Cond.instanceMethod yX3_points, Cond.selects RX3 yX3_points yX3_points, Cond.initialized RX3, Cond.code yX3_points cX3_points 1 (some .int), Cond.methodLink RX3 40 yX3_pointsOf, Cond.instanceMethod yX3_pointsOf, Cond.selects RX3 yX3_pointsOf yX3_pointsOf, Cond.code yX3_pointsOf cX3_pointsOf 2 (some .int), Cond.fieldLink RX3 24 "RiverModel$Knobs" "manys" "[I", Cond.methodLink RX3 37 yX3_isSet, Cond.instanceMethod yX3_isSet, Cond.selects RX3 yX3_isSet yX3_isSet, Cond.code yX3_isSet cX3_isSet 2 (some .boolean), Cond.methodLink RX9 243 yX9_pointHolds, Cond.instanceMethod yX9_pointHolds, Cond.selects RX9 yX9_pointHolds yX9_pointHolds, Cond.initialized RX9, Cond.code yX9_pointHolds cX9_pointHolds 4 (some .boolean), Cond.fieldLink RX9 23 "RiverModel" "draft" "LRiverModel$Model;", Cond.fieldLink RX9 19 "RiverModel" "model" "LRiverModel$Model;", Cond.fieldLink RX9 57 "RiverModel" "trial" "LRiverModel$Course;", Cond.fieldLink RX9 74 "RiverModel" "gauges" "LRiverModel$Gauges;"]
def wsX9_holdingPoint_r2 : List Cond := [Cond.fieldLink RX9 39 "RiverModel" "skyA" "LRiverModel$Sky;", Cond.methodLink RX9 316 yX4_copyFrom, Cond.instanceMethod yX4_copyFrom, Cond.selects RX4 yX4_copyFrom yX4_copyFrom, Cond.initialized RX4, Cond.code yX4_copyFrom cX4_copyFrom 2 none, Cond.fieldLink RX4 9 "RiverModel$Model" "cells" "[I", Cond.methodLink RX4 37 arraycopyName, Cond.native arraycopyName, Cond.static arraycopyName, Cond.initialized "java/lang/System", Cond.fieldLink RX4 15 "RiverModel$Model" "storeItems" "[I", Cond.fieldLink RX4 18 "RiverModel$Model" "gateItems" "[I", Cond.fieldLink RX4 21 "RiverModel$Model" "many" "I", Cond.fieldLink RX4 25 "RiverModel$Model" "stores" "I", Cond.fieldLink RX4 28 "RiverModel$Model" "gates" "I", Cond.methodLink RX9 350 yX3_lay, Cond.instanceMethod yX3_lay, Cond.selects RX3 yX3_lay yX3_lay, Cond.code yX3_lay cX3_lay 4 (some .boolean), Cond.fieldLink RX3 9 "RiverModel$Knobs" "items" "[I", Cond.fieldLink RX3 15 "RiverModel$Knobs" "numbers" "[I", Cond.methodLink RX3 50 yX4_hasNumber, Cond.instanceMethod yX4_hasNumber]
def wsX9_holdingPoint_r3 : List Cond := [Cond.selects RX4 yX4_hasNumber yX4_hasNumber, Cond.code yX4_hasNumber cX4_hasNumber 3 (some .boolean), Cond.methodLink RX4 73 yX4_cell, Cond.instanceMethod yX4_cell, Cond.selects RX4 yX4_cell yX4_cell, Cond.code yX4_cell cX4_cell 3 (some .int), Cond.methodLink RX4 86 yX2_numbersOf, Cond.static yX2_numbersOf, Cond.initialized RX2, Cond.code yX2_numbersOf cX2_numbersOf 1 (some .int), Cond.methodLink RX3 56 yX3_numberAt, Cond.instanceMethod yX3_numberAt, Cond.selects RX3 yX3_numberAt yX3_numberAt, Cond.code yX3_numberAt cX3_numberAt 4 (some .int), Cond.methodLink RX3 44 Lib.Math.max.name, Cond.static Lib.Math.max.name, Cond.initialized "java/lang/Math", Cond.code Lib.Math.max.name Lib.Math.max.code 2 (some .int), Cond.fieldLink RX3 18 "RiverModel$Knobs" "froms" "[I", Cond.fieldLink RX3 21 "RiverModel$Knobs" "steps" "[I", Cond.static yX9_isNoKnob, Cond.code yX9_isNoKnob cX9_isNoKnob 1 (some .boolean), Cond.methodLink RX3 59 yX4_putCell, Cond.instanceMethod yX4_putCell]
def wsX9_holdingPoint_r4 : List Cond := [Cond.selects RX4 yX4_putCell yX4_putCell, Cond.code yX4_putCell cX4_putCell 4 none, Cond.static yX9_isNoItem, Cond.code yX9_isNoItem cX9_isNoItem 1 (some .boolean), Cond.static yX9_isOutside, Cond.code yX9_isOutside cX9_isOutside 3 (some .boolean), Cond.methodLink RX3 63 yX4_isItemAsTold, Cond.instanceMethod yX4_isItemAsTold, Cond.selects RX4 yX4_isItemAsTold yX4_isItemAsTold, Cond.code yX4_isItemAsTold cX4_isItemAsTold 2 (some .boolean), Cond.methodLink RX4 77 yX2_areNumbersAsTold, Cond.static yX2_areNumbersAsTold, Cond.code yX2_areNumbersAsTold cX2_areNumbersAsTold 4 (some .boolean), Cond.constant RX2 9 (1000000), Cond.methodLink RX2 10 yX2_isUpTo, Cond.static yX2_isUpTo, Cond.code yX2_isUpTo cX2_isUpTo 2 (some .boolean), Cond.methodLink RX9 147 yX0_begin, Cond.instanceMethod yX0_begin, Cond.selects RX0 yX0_begin yX0_begin, Cond.initialized RX0, Cond.code yX0_begin cX0_begin 3 none, Cond.fieldLink RX0 9 "RiverModel$Course" "held" "[J", Cond.fieldLink RX0 15 "RiverModel$Course" "moved" "[J"]
def wsX9_holdingPoint_r5 : List Cond := [Cond.fieldLink RX0 18 "RiverModel$Course" "openings" "[I", Cond.fieldLink RX0 22 "RiverModel$Course" "due" "[J", Cond.fieldLink RX0 25 "RiverModel$Course" "rained" "J", Cond.fieldLink RX0 29 "RiverModel$Course" "air" "J", Cond.fieldLink RX0 32 "RiverModel$Course" "sea" "J", Cond.fieldLink RX0 35 "RiverModel$Course" "hours" "I", Cond.methodLink RX0 39 yX4_startOf, Cond.instanceMethod yX4_startOf, Cond.selects RX4 yX4_startOf yX4_startOf, Cond.code yX4_startOf cX4_startOf 2 (some .int), Cond.methodLink RX4 66 yX4_hasStore, Cond.instanceMethod yX4_hasStore, Cond.selects RX4 yX4_hasStore yX4_hasStore, Cond.code yX4_hasStore cX4_hasStore 2 (some .boolean), Cond.methodLink RX0 45 yJ7_fill_d0a16, Cond.static yJ7_fill_d0a16, Cond.initialized RJ7, Cond.code yJ7_fill_d0a16 cJ7_fill_d0a16 5 none, Cond.methodLink RX0 51 yJ7_fill_53178, Cond.static yJ7_fill_53178, Cond.code yJ7_fill_53178 cJ7_fill_53178 4 none, Cond.methodLink RX9 354 yX1_lastSeen, Cond.instanceMethod yX1_lastSeen, Cond.selects RX1 yX1_lastSeen yX1_lastSeen]
def wsX9_holdingPoint_r6 : List Cond := [Cond.initialized RX1, Cond.code yX1_lastSeen cX1_lastSeen 3 (some .int), Cond.fieldLink RX1 18 "RiverModel$Gauges" "seen" "[I", Cond.methodLink RX1 67 Lib.Math.max.name, Cond.methodLink RX9 357 yX6_rainIn, Cond.instanceMethod yX6_rainIn, Cond.selects RX6 yX6_rainIn yX6_rainIn, Cond.initialized RX6, Cond.code yX6_rainIn cX6_rainIn 2 (some .int), Cond.fieldLink RX6 9 "RiverModel$Sky" "rains" "[I", Cond.methodLink RX9 360 yX6_tempIn, Cond.instanceMethod yX6_tempIn, Cond.selects RX6 yX6_tempIn yX6_tempIn, Cond.code yX6_tempIn cX6_tempIn 2 (some .int), Cond.fieldLink RX6 15 "RiverModel$Sky" "temps" "[I", Cond.methodLink RX9 363 yX0_goHour, Cond.instanceMethod yX0_goHour, Cond.selects RX0 yX0_goHour yX0_goHour, Cond.code yX0_goHour cX0_goHour 7 none, Cond.fieldLink RX0 75 "RiverModel$Model" "many" "I", Cond.methodLink RX0 72 yX0_bringDue, Cond.instanceMethod yX0_bringDue, Cond.selects RX0 yX0_bringDue yX0_bringDue, Cond.code yX0_bringDue cX0_bringDue 3 none]
def wsX9_holdingPoint_r7 : List Cond := [Cond.methodLink RX0 78 yX0_amountOf, Cond.instanceMethod yX0_amountOf, Cond.selects RX0 yX0_amountOf yX0_amountOf, Cond.code yX0_amountOf cX0_amountOf 11 (some .long), Cond.methodLink RX0 101 Lib.MathLoose.max_long.x, Cond.static Lib.MathLoose.max_long.x, Cond.code Lib.MathLoose.max_long.x Lib.MathLoose.max_long.code 4 (some .long), Cond.methodLink RX0 107 Lib.MathLoose.min_long.x, Cond.static Lib.MathLoose.min_long.x, Cond.code Lib.MathLoose.min_long.x Lib.MathLoose.min_long.code 4 (some .long), Cond.constantLong RX0 117 (100), Cond.constantLong RX0 119 (10), Cond.methodLink RX0 86 yX4_cell, Cond.static yX9_isNoStore, Cond.code yX9_isNoStore cX9_isNoStore 1 (some .boolean), Cond.methodLink RX0 94 yX0_leakOf, Cond.static yX0_leakOf, Cond.code yX0_leakOf cX0_leakOf 8 (some .long), Cond.methodLink RX0 98 yX4_capacityOf, Cond.instanceMethod yX4_capacityOf, Cond.selects RX4 yX4_capacityOf yX4_capacityOf, Cond.code yX4_capacityOf cX4_capacityOf 2 (some .int), Cond.methodLink RX0 110 yX4_gateOf, Cond.instanceMethod yX4_gateOf]
def wsX9_holdingPoint_r8 : List Cond := [Cond.selects RX4 yX4_gateOf yX4_gateOf, Cond.code yX4_gateOf cX4_gateOf 3 (some .int), Cond.methodLink RX0 113 yX0_openingOf, Cond.instanceMethod yX0_openingOf, Cond.selects RX0 yX0_openingOf yX0_openingOf, Cond.code yX0_openingOf cX0_openingOf 2 (some .long), Cond.static yX9_isNoGate, Cond.code yX9_isNoGate cX9_isNoGate 1 (some .boolean), Cond.methodLink RX0 82 yX0_move, Cond.instanceMethod yX0_move, Cond.selects RX0 yX0_move yX0_move, Cond.code yX0_move cX0_move 8 none, Cond.methodLink RX0 124 yX0_send, Cond.instanceMethod yX0_send, Cond.selects RX0 yX0_send yX0_send, Cond.code yX0_send cX0_send 5 none, Cond.methodLink RX9 367 yX1_agree, Cond.instanceMethod yX1_agree, Cond.selects RX1 yX1_agree yX1_agree, Cond.code yX1_agree cX1_agree 5 (some .boolean), Cond.methodLink RX1 61 Lib.MathLoose.abs_long.x, Cond.static Lib.MathLoose.abs_long.x, Cond.code Lib.MathLoose.abs_long.x Lib.MathLoose.abs_long.code 2 (some .long), Cond.fieldLink RX1 21 "RiverModel$Gauges" "mayBeOff" "I"]
def wsX9_holdingPoint_r9 : List Cond := [Cond.methodLink RX1 57 yX1_reading, Cond.instanceMethod yX1_reading, Cond.selects RX1 yX1_reading yX1_reading, Cond.code yX1_reading cX1_reading 4 (some .long), Cond.fieldLink RX1 15 "RiverModel$Gauges" "places" "[I", Cond.fieldLink RX1 9 "RiverModel$Gauges" "whats" "[I", Cond.fieldLink RX1 41 "RiverModel$Course" "moved" "[J", Cond.fieldLink RX1 50 "RiverModel$Course" "held" "[J", Cond.methodLink RX1 35 yX1_isSet, Cond.instanceMethod yX1_isSet, Cond.selects RX1 yX1_isSet yX1_isSet, Cond.code yX1_isSet cX1_isSet 2 (some .boolean)]
def wsX9_holdingPoint : List Cond := .code yX9_holdingPoint cX9_holdingPoint 5 (some .int) :: ((wsX9_holdingPoint_r1 ++ (wsX9_holdingPoint_r2 ++ (wsX9_holdingPoint_r3 ++ (wsX9_holdingPoint_r4 ++ (wsX9_holdingPoint_r5 ++ (wsX9_holdingPoint_r6 ++ (wsX9_holdingPoint_r7 ++ (wsX9_holdingPoint_r8 ++ wsX9_holdingPoint_r9)))))))) ++ wsX90 ++ wsX30 ++ wsX40 ++ wsX00 ++ wsX10 ++ wsX60)
def wsX9_fit_r1 : List Cond := [Cond.fieldLink RX9 29 "RiverModel" "isBuilt" "Z", Cond.fieldLink RX9 81 "RiverModel" "knobs" "LRiverModel$Knobs;", Cond.methodLink RX9 228 yX9_isNoKnob, Cond.static yX9_isNoKnob, Cond.initialized RX9, Cond.code yX9_isNoKnob cX9_isNoKnob 1 (some .boolean), Cond.methodLink RX9 246 yX3_isSet, Cond.instanceMethod yX3_isSet, Cond.selects RX3 yX3_isSet yX3_isSet, Cond.initialized RX3, Cond.code yX3_isSet cX3_isSet 2 (some .boolean), Cond.fieldLink RX3 24 "RiverModel$Knobs" "manys" "[I", Cond.methodLink RX9 249 yX9_holdingPoint, Cond.instanceMethod yX9_holdingPoint, Cond.selects RX9 yX9_holdingPoint yX9_holdingPoint, Cond.code yX9_holdingPoint cX9_holdingPoint 5 (some .int), Cond.methodLink RX9 239 yX3_points, Cond.instanceMethod yX3_points, Cond.selects RX3 yX3_points yX3_points, Cond.code yX3_points cX3_points 1 (some .int), Cond.methodLink RX3 40 yX3_pointsOf, Cond.instanceMethod yX3_pointsOf, Cond.selects RX3 yX3_pointsOf yX3_pointsOf, Cond.code yX3_pointsOf cX3_pointsOf 2 (some .int)]
def wsX9_fit_r2 : List Cond := [Cond.methodLink RX3 37 yX3_isSet, Cond.methodLink RX9 243 yX9_pointHolds, Cond.instanceMethod yX9_pointHolds, Cond.selects RX9 yX9_pointHolds yX9_pointHolds, Cond.code yX9_pointHolds cX9_pointHolds 4 (some .boolean), Cond.fieldLink RX9 23 "RiverModel" "draft" "LRiverModel$Model;", Cond.fieldLink RX9 19 "RiverModel" "model" "LRiverModel$Model;", Cond.fieldLink RX9 57 "RiverModel" "trial" "LRiverModel$Course;", Cond.fieldLink RX9 74 "RiverModel" "gauges" "LRiverModel$Gauges;", Cond.fieldLink RX9 39 "RiverModel" "skyA" "LRiverModel$Sky;", Cond.methodLink RX9 316 yX4_copyFrom, Cond.instanceMethod yX4_copyFrom, Cond.selects RX4 yX4_copyFrom yX4_copyFrom, Cond.initialized RX4, Cond.code yX4_copyFrom cX4_copyFrom 2 none, Cond.fieldLink RX4 9 "RiverModel$Model" "cells" "[I", Cond.methodLink RX4 37 arraycopyName, Cond.native arraycopyName, Cond.static arraycopyName, Cond.initialized "java/lang/System", Cond.fieldLink RX4 15 "RiverModel$Model" "storeItems" "[I", Cond.fieldLink RX4 18 "RiverModel$Model" "gateItems" "[I", Cond.fieldLink RX4 21 "RiverModel$Model" "many" "I", Cond.fieldLink RX4 25 "RiverModel$Model" "stores" "I"]
def wsX9_fit_r3 : List Cond := [Cond.fieldLink RX4 28 "RiverModel$Model" "gates" "I", Cond.methodLink RX9 350 yX3_lay, Cond.instanceMethod yX3_lay, Cond.selects RX3 yX3_lay yX3_lay, Cond.code yX3_lay cX3_lay 4 (some .boolean), Cond.fieldLink RX3 9 "RiverModel$Knobs" "items" "[I", Cond.fieldLink RX3 15 "RiverModel$Knobs" "numbers" "[I", Cond.methodLink RX3 50 yX4_hasNumber, Cond.instanceMethod yX4_hasNumber, Cond.selects RX4 yX4_hasNumber yX4_hasNumber, Cond.code yX4_hasNumber cX4_hasNumber 3 (some .boolean), Cond.methodLink RX4 73 yX4_cell, Cond.instanceMethod yX4_cell, Cond.selects RX4 yX4_cell yX4_cell, Cond.code yX4_cell cX4_cell 3 (some .int), Cond.methodLink RX4 86 yX2_numbersOf, Cond.static yX2_numbersOf, Cond.initialized RX2, Cond.code yX2_numbersOf cX2_numbersOf 1 (some .int), Cond.methodLink RX3 56 yX3_numberAt, Cond.instanceMethod yX3_numberAt, Cond.selects RX3 yX3_numberAt yX3_numberAt, Cond.code yX3_numberAt cX3_numberAt 4 (some .int), Cond.methodLink RX3 44 Lib.Math.max.name]
def wsX9_fit_r4 : List Cond := [Cond.static Lib.Math.max.name, Cond.initialized "java/lang/Math", Cond.code Lib.Math.max.name Lib.Math.max.code 2 (some .int), Cond.fieldLink RX3 18 "RiverModel$Knobs" "froms" "[I", Cond.fieldLink RX3 21 "RiverModel$Knobs" "steps" "[I", Cond.methodLink RX3 59 yX4_putCell, Cond.instanceMethod yX4_putCell, Cond.selects RX4 yX4_putCell yX4_putCell, Cond.code yX4_putCell cX4_putCell 4 none, Cond.static yX9_isNoItem, Cond.code yX9_isNoItem cX9_isNoItem 1 (some .boolean), Cond.static yX9_isOutside, Cond.code yX9_isOutside cX9_isOutside 3 (some .boolean), Cond.methodLink RX3 63 yX4_isItemAsTold, Cond.instanceMethod yX4_isItemAsTold, Cond.selects RX4 yX4_isItemAsTold yX4_isItemAsTold, Cond.code yX4_isItemAsTold cX4_isItemAsTold 2 (some .boolean), Cond.methodLink RX4 77 yX2_areNumbersAsTold, Cond.static yX2_areNumbersAsTold, Cond.code yX2_areNumbersAsTold cX2_areNumbersAsTold 4 (some .boolean), Cond.constant RX2 9 (1000000), Cond.methodLink RX2 10 yX2_isUpTo, Cond.static yX2_isUpTo, Cond.code yX2_isUpTo cX2_isUpTo 2 (some .boolean)]
def wsX9_fit_r5 : List Cond := [Cond.methodLink RX9 147 yX0_begin, Cond.instanceMethod yX0_begin, Cond.selects RX0 yX0_begin yX0_begin, Cond.initialized RX0, Cond.code yX0_begin cX0_begin 3 none, Cond.fieldLink RX0 9 "RiverModel$Course" "held" "[J", Cond.fieldLink RX0 15 "RiverModel$Course" "moved" "[J", Cond.fieldLink RX0 18 "RiverModel$Course" "openings" "[I", Cond.fieldLink RX0 22 "RiverModel$Course" "due" "[J", Cond.fieldLink RX0 25 "RiverModel$Course" "rained" "J", Cond.fieldLink RX0 29 "RiverModel$Course" "air" "J", Cond.fieldLink RX0 32 "RiverModel$Course" "sea" "J", Cond.fieldLink RX0 35 "RiverModel$Course" "hours" "I", Cond.methodLink RX0 39 yX4_startOf, Cond.instanceMethod yX4_startOf, Cond.selects RX4 yX4_startOf yX4_startOf, Cond.code yX4_startOf cX4_startOf 2 (some .int), Cond.methodLink RX4 66 yX4_hasStore, Cond.instanceMethod yX4_hasStore, Cond.selects RX4 yX4_hasStore yX4_hasStore, Cond.code yX4_hasStore cX4_hasStore 2 (some .boolean), Cond.methodLink RX0 45 yJ7_fill_d0a16, Cond.static yJ7_fill_d0a16, Cond.initialized RJ7]
def wsX9_fit_r6 : List Cond := [Cond.code yJ7_fill_d0a16 cJ7_fill_d0a16 5 none, Cond.methodLink RX0 51 yJ7_fill_53178, Cond.static yJ7_fill_53178, Cond.code yJ7_fill_53178 cJ7_fill_53178 4 none, Cond.methodLink RX9 354 yX1_lastSeen, Cond.instanceMethod yX1_lastSeen, Cond.selects RX1 yX1_lastSeen yX1_lastSeen, Cond.initialized RX1, Cond.code yX1_lastSeen cX1_lastSeen 3 (some .int), Cond.fieldLink RX1 18 "RiverModel$Gauges" "seen" "[I", Cond.methodLink RX1 67 Lib.Math.max.name, Cond.methodLink RX9 357 yX6_rainIn, Cond.instanceMethod yX6_rainIn, Cond.selects RX6 yX6_rainIn yX6_rainIn, Cond.initialized RX6, Cond.code yX6_rainIn cX6_rainIn 2 (some .int), Cond.fieldLink RX6 9 "RiverModel$Sky" "rains" "[I", Cond.methodLink RX9 360 yX6_tempIn, Cond.instanceMethod yX6_tempIn, Cond.selects RX6 yX6_tempIn yX6_tempIn, Cond.code yX6_tempIn cX6_tempIn 2 (some .int), Cond.fieldLink RX6 15 "RiverModel$Sky" "temps" "[I", Cond.methodLink RX9 363 yX0_goHour, Cond.instanceMethod yX0_goHour]
def wsX9_fit_r7 : List Cond := [Cond.selects RX0 yX0_goHour yX0_goHour, Cond.code yX0_goHour cX0_goHour 7 none, Cond.fieldLink RX0 75 "RiverModel$Model" "many" "I", Cond.methodLink RX0 72 yX0_bringDue, Cond.instanceMethod yX0_bringDue, Cond.selects RX0 yX0_bringDue yX0_bringDue, Cond.code yX0_bringDue cX0_bringDue 3 none, Cond.methodLink RX0 78 yX0_amountOf, Cond.instanceMethod yX0_amountOf, Cond.selects RX0 yX0_amountOf yX0_amountOf, Cond.code yX0_amountOf cX0_amountOf 11 (some .long), Cond.methodLink RX0 101 Lib.MathLoose.max_long.x, Cond.static Lib.MathLoose.max_long.x, Cond.code Lib.MathLoose.max_long.x Lib.MathLoose.max_long.code 4 (some .long), Cond.methodLink RX0 107 Lib.MathLoose.min_long.x, Cond.static Lib.MathLoose.min_long.x, Cond.code Lib.MathLoose.min_long.x Lib.MathLoose.min_long.code 4 (some .long), Cond.constantLong RX0 117 (100), Cond.constantLong RX0 119 (10), Cond.methodLink RX0 86 yX4_cell, Cond.static yX9_isNoStore, Cond.code yX9_isNoStore cX9_isNoStore 1 (some .boolean), Cond.methodLink RX0 94 yX0_leakOf, Cond.static yX0_leakOf]
def wsX9_fit_r8 : List Cond := [Cond.code yX0_leakOf cX0_leakOf 8 (some .long), Cond.methodLink RX0 98 yX4_capacityOf, Cond.instanceMethod yX4_capacityOf, Cond.selects RX4 yX4_capacityOf yX4_capacityOf, Cond.code yX4_capacityOf cX4_capacityOf 2 (some .int), Cond.methodLink RX0 110 yX4_gateOf, Cond.instanceMethod yX4_gateOf, Cond.selects RX4 yX4_gateOf yX4_gateOf, Cond.code yX4_gateOf cX4_gateOf 3 (some .int), Cond.methodLink RX0 113 yX0_openingOf, Cond.instanceMethod yX0_openingOf, Cond.selects RX0 yX0_openingOf yX0_openingOf, Cond.code yX0_openingOf cX0_openingOf 2 (some .long), Cond.static yX9_isNoGate, Cond.code yX9_isNoGate cX9_isNoGate 1 (some .boolean), Cond.methodLink RX0 82 yX0_move, Cond.instanceMethod yX0_move, Cond.selects RX0 yX0_move yX0_move, Cond.code yX0_move cX0_move 8 none, Cond.methodLink RX0 124 yX0_send, Cond.instanceMethod yX0_send, Cond.selects RX0 yX0_send yX0_send, Cond.code yX0_send cX0_send 5 none, Cond.methodLink RX9 367 yX1_agree]
def wsX9_fit_r9 : List Cond := [Cond.instanceMethod yX1_agree, Cond.selects RX1 yX1_agree yX1_agree, Cond.code yX1_agree cX1_agree 5 (some .boolean), Cond.methodLink RX1 61 Lib.MathLoose.abs_long.x, Cond.static Lib.MathLoose.abs_long.x, Cond.code Lib.MathLoose.abs_long.x Lib.MathLoose.abs_long.code 2 (some .long), Cond.fieldLink RX1 21 "RiverModel$Gauges" "mayBeOff" "I", Cond.methodLink RX1 57 yX1_reading, Cond.instanceMethod yX1_reading, Cond.selects RX1 yX1_reading yX1_reading, Cond.code yX1_reading cX1_reading 4 (some .long), Cond.fieldLink RX1 15 "RiverModel$Gauges" "places" "[I", Cond.fieldLink RX1 9 "RiverModel$Gauges" "whats" "[I", Cond.fieldLink RX1 41 "RiverModel$Course" "moved" "[J", Cond.fieldLink RX1 50 "RiverModel$Course" "held" "[J", Cond.methodLink RX1 35 yX1_isSet, Cond.instanceMethod yX1_isSet, Cond.selects RX1 yX1_isSet yX1_isSet, Cond.code yX1_isSet cX1_isSet 2 (some .boolean), Cond.methodLink RX9 253 yX3_numberAt]
def wsX9_fit : List Cond := .code yX9_fit cX9_fit 4 (some .int) :: ((wsX9_fit_r1 ++ (wsX9_fit_r2 ++ (wsX9_fit_r3 ++ (wsX9_fit_r4 ++ (wsX9_fit_r5 ++ (wsX9_fit_r6 ++ (wsX9_fit_r7 ++ (wsX9_fit_r8 ++ wsX9_fit_r9)))))))) ++ wsX90 ++ wsX30 ++ wsX40 ++ wsX00 ++ wsX10 ++ wsX60)
def wsX9_take_r1 : List Cond := [Cond.fieldLink RX9 29 "RiverModel" "isBuilt" "Z", Cond.methodLink RX9 249 yX9_holdingPoint, Cond.instanceMethod yX9_holdingPoint, Cond.selects RX9 yX9_holdingPoint yX9_holdingPoint, Cond.initialized RX9, Cond.code yX9_holdingPoint cX9_holdingPoint 5 (some .int), Cond.fieldLink RX9 81 "RiverModel" "knobs" "LRiverModel$Knobs;", Cond.methodLink RX9 239 yX3_points, Cond.instanceMethod yX3_points, Cond.selects RX3 yX3_points yX3_points, Cond.initialized RX3, Cond.code yX3_points cX3_points 1 (some .int), Cond.methodLink RX3 40 yX3_pointsOf, Cond.instanceMethod yX3_pointsOf, Cond.selects RX3 yX3_pointsOf yX3_pointsOf, Cond.code yX3_pointsOf cX3_pointsOf 2 (some .int), Cond.fieldLink RX3 24 "RiverModel$Knobs" "manys" "[I", Cond.methodLink RX3 37 yX3_isSet, Cond.instanceMethod yX3_isSet, Cond.selects RX3 yX3_isSet yX3_isSet, Cond.code yX3_isSet cX3_isSet 2 (some .boolean), Cond.methodLink RX9 243 yX9_pointHolds, Cond.instanceMethod yX9_pointHolds, Cond.selects RX9 yX9_pointHolds yX9_pointHolds]
def wsX9_take_r2 : List Cond := [Cond.code yX9_pointHolds cX9_pointHolds 4 (some .boolean), Cond.fieldLink RX9 23 "RiverModel" "draft" "LRiverModel$Model;", Cond.fieldLink RX9 19 "RiverModel" "model" "LRiverModel$Model;", Cond.fieldLink RX9 57 "RiverModel" "trial" "LRiverModel$Course;", Cond.fieldLink RX9 74 "RiverModel" "gauges" "LRiverModel$Gauges;", Cond.fieldLink RX9 39 "RiverModel" "skyA" "LRiverModel$Sky;", Cond.methodLink RX9 316 yX4_copyFrom, Cond.instanceMethod yX4_copyFrom, Cond.selects RX4 yX4_copyFrom yX4_copyFrom, Cond.initialized RX4, Cond.code yX4_copyFrom cX4_copyFrom 2 none, Cond.fieldLink RX4 9 "RiverModel$Model" "cells" "[I", Cond.methodLink RX4 37 arraycopyName, Cond.native arraycopyName, Cond.static arraycopyName, Cond.initialized "java/lang/System", Cond.fieldLink RX4 15 "RiverModel$Model" "storeItems" "[I", Cond.fieldLink RX4 18 "RiverModel$Model" "gateItems" "[I", Cond.fieldLink RX4 21 "RiverModel$Model" "many" "I", Cond.fieldLink RX4 25 "RiverModel$Model" "stores" "I", Cond.fieldLink RX4 28 "RiverModel$Model" "gates" "I", Cond.methodLink RX9 350 yX3_lay, Cond.instanceMethod yX3_lay, Cond.selects RX3 yX3_lay yX3_lay]
def wsX9_take_r3 : List Cond := [Cond.code yX3_lay cX3_lay 4 (some .boolean), Cond.fieldLink RX3 9 "RiverModel$Knobs" "items" "[I", Cond.fieldLink RX3 15 "RiverModel$Knobs" "numbers" "[I", Cond.methodLink RX3 50 yX4_hasNumber, Cond.instanceMethod yX4_hasNumber, Cond.selects RX4 yX4_hasNumber yX4_hasNumber, Cond.code yX4_hasNumber cX4_hasNumber 3 (some .boolean), Cond.methodLink RX4 73 yX4_cell, Cond.instanceMethod yX4_cell, Cond.selects RX4 yX4_cell yX4_cell, Cond.code yX4_cell cX4_cell 3 (some .int), Cond.methodLink RX4 86 yX2_numbersOf, Cond.static yX2_numbersOf, Cond.initialized RX2, Cond.code yX2_numbersOf cX2_numbersOf 1 (some .int), Cond.methodLink RX3 56 yX3_numberAt, Cond.instanceMethod yX3_numberAt, Cond.selects RX3 yX3_numberAt yX3_numberAt, Cond.code yX3_numberAt cX3_numberAt 4 (some .int), Cond.methodLink RX3 44 Lib.Math.max.name, Cond.static Lib.Math.max.name, Cond.initialized "java/lang/Math", Cond.code Lib.Math.max.name Lib.Math.max.code 2 (some .int), Cond.fieldLink RX3 18 "RiverModel$Knobs" "froms" "[I"]
def wsX9_take_r4 : List Cond := [Cond.fieldLink RX3 21 "RiverModel$Knobs" "steps" "[I", Cond.static yX9_isNoKnob, Cond.code yX9_isNoKnob cX9_isNoKnob 1 (some .boolean), Cond.methodLink RX3 59 yX4_putCell, Cond.instanceMethod yX4_putCell, Cond.selects RX4 yX4_putCell yX4_putCell, Cond.code yX4_putCell cX4_putCell 4 none, Cond.static yX9_isNoItem, Cond.code yX9_isNoItem cX9_isNoItem 1 (some .boolean), Cond.static yX9_isOutside, Cond.code yX9_isOutside cX9_isOutside 3 (some .boolean), Cond.methodLink RX3 63 yX4_isItemAsTold, Cond.instanceMethod yX4_isItemAsTold, Cond.selects RX4 yX4_isItemAsTold yX4_isItemAsTold, Cond.code yX4_isItemAsTold cX4_isItemAsTold 2 (some .boolean), Cond.methodLink RX4 77 yX2_areNumbersAsTold, Cond.static yX2_areNumbersAsTold, Cond.code yX2_areNumbersAsTold cX2_areNumbersAsTold 4 (some .boolean), Cond.constant RX2 9 (1000000), Cond.methodLink RX2 10 yX2_isUpTo, Cond.static yX2_isUpTo, Cond.code yX2_isUpTo cX2_isUpTo 2 (some .boolean), Cond.methodLink RX9 147 yX0_begin, Cond.instanceMethod yX0_begin]
def wsX9_take_r5 : List Cond := [Cond.selects RX0 yX0_begin yX0_begin, Cond.initialized RX0, Cond.code yX0_begin cX0_begin 3 none, Cond.fieldLink RX0 9 "RiverModel$Course" "held" "[J", Cond.fieldLink RX0 15 "RiverModel$Course" "moved" "[J", Cond.fieldLink RX0 18 "RiverModel$Course" "openings" "[I", Cond.fieldLink RX0 22 "RiverModel$Course" "due" "[J", Cond.fieldLink RX0 25 "RiverModel$Course" "rained" "J", Cond.fieldLink RX0 29 "RiverModel$Course" "air" "J", Cond.fieldLink RX0 32 "RiverModel$Course" "sea" "J", Cond.fieldLink RX0 35 "RiverModel$Course" "hours" "I", Cond.methodLink RX0 39 yX4_startOf, Cond.instanceMethod yX4_startOf, Cond.selects RX4 yX4_startOf yX4_startOf, Cond.code yX4_startOf cX4_startOf 2 (some .int), Cond.methodLink RX4 66 yX4_hasStore, Cond.instanceMethod yX4_hasStore, Cond.selects RX4 yX4_hasStore yX4_hasStore, Cond.code yX4_hasStore cX4_hasStore 2 (some .boolean), Cond.methodLink RX0 45 yJ7_fill_d0a16, Cond.static yJ7_fill_d0a16, Cond.initialized RJ7, Cond.code yJ7_fill_d0a16 cJ7_fill_d0a16 5 none, Cond.methodLink RX0 51 yJ7_fill_53178]
def wsX9_take_r6 : List Cond := [Cond.static yJ7_fill_53178, Cond.code yJ7_fill_53178 cJ7_fill_53178 4 none, Cond.methodLink RX9 354 yX1_lastSeen, Cond.instanceMethod yX1_lastSeen, Cond.selects RX1 yX1_lastSeen yX1_lastSeen, Cond.initialized RX1, Cond.code yX1_lastSeen cX1_lastSeen 3 (some .int), Cond.fieldLink RX1 18 "RiverModel$Gauges" "seen" "[I", Cond.methodLink RX1 67 Lib.Math.max.name, Cond.methodLink RX9 357 yX6_rainIn, Cond.instanceMethod yX6_rainIn, Cond.selects RX6 yX6_rainIn yX6_rainIn, Cond.initialized RX6, Cond.code yX6_rainIn cX6_rainIn 2 (some .int), Cond.fieldLink RX6 9 "RiverModel$Sky" "rains" "[I", Cond.methodLink RX9 360 yX6_tempIn, Cond.instanceMethod yX6_tempIn, Cond.selects RX6 yX6_tempIn yX6_tempIn, Cond.code yX6_tempIn cX6_tempIn 2 (some .int), Cond.fieldLink RX6 15 "RiverModel$Sky" "temps" "[I", Cond.methodLink RX9 363 yX0_goHour, Cond.instanceMethod yX0_goHour, Cond.selects RX0 yX0_goHour yX0_goHour, Cond.code yX0_goHour cX0_goHour 7 none]
def wsX9_take_r7 : List Cond := [Cond.fieldLink RX0 75 "RiverModel$Model" "many" "I", Cond.methodLink RX0 72 yX0_bringDue, Cond.instanceMethod yX0_bringDue, Cond.selects RX0 yX0_bringDue yX0_bringDue, Cond.code yX0_bringDue cX0_bringDue 3 none, Cond.methodLink RX0 78 yX0_amountOf, Cond.instanceMethod yX0_amountOf, Cond.selects RX0 yX0_amountOf yX0_amountOf, Cond.code yX0_amountOf cX0_amountOf 11 (some .long), Cond.methodLink RX0 101 Lib.MathLoose.max_long.x, Cond.static Lib.MathLoose.max_long.x, Cond.code Lib.MathLoose.max_long.x Lib.MathLoose.max_long.code 4 (some .long), Cond.methodLink RX0 107 Lib.MathLoose.min_long.x, Cond.static Lib.MathLoose.min_long.x, Cond.code Lib.MathLoose.min_long.x Lib.MathLoose.min_long.code 4 (some .long), Cond.constantLong RX0 117 (100), Cond.constantLong RX0 119 (10), Cond.methodLink RX0 86 yX4_cell, Cond.static yX9_isNoStore, Cond.code yX9_isNoStore cX9_isNoStore 1 (some .boolean), Cond.methodLink RX0 94 yX0_leakOf, Cond.static yX0_leakOf, Cond.code yX0_leakOf cX0_leakOf 8 (some .long), Cond.methodLink RX0 98 yX4_capacityOf]
def wsX9_take_r8 : List Cond := [Cond.instanceMethod yX4_capacityOf, Cond.selects RX4 yX4_capacityOf yX4_capacityOf, Cond.code yX4_capacityOf cX4_capacityOf 2 (some .int), Cond.methodLink RX0 110 yX4_gateOf, Cond.instanceMethod yX4_gateOf, Cond.selects RX4 yX4_gateOf yX4_gateOf, Cond.code yX4_gateOf cX4_gateOf 3 (some .int), Cond.methodLink RX0 113 yX0_openingOf, Cond.instanceMethod yX0_openingOf, Cond.selects RX0 yX0_openingOf yX0_openingOf, Cond.code yX0_openingOf cX0_openingOf 2 (some .long), Cond.static yX9_isNoGate, Cond.code yX9_isNoGate cX9_isNoGate 1 (some .boolean), Cond.methodLink RX0 82 yX0_move, Cond.instanceMethod yX0_move, Cond.selects RX0 yX0_move yX0_move, Cond.code yX0_move cX0_move 8 none, Cond.methodLink RX0 124 yX0_send, Cond.instanceMethod yX0_send, Cond.selects RX0 yX0_send yX0_send, Cond.code yX0_send cX0_send 5 none, Cond.methodLink RX9 367 yX1_agree, Cond.instanceMethod yX1_agree, Cond.selects RX1 yX1_agree yX1_agree]
def wsX9_take_r9 : List Cond := [Cond.code yX1_agree cX1_agree 5 (some .boolean), Cond.methodLink RX1 61 Lib.MathLoose.abs_long.x, Cond.static Lib.MathLoose.abs_long.x, Cond.code Lib.MathLoose.abs_long.x Lib.MathLoose.abs_long.code 2 (some .long), Cond.fieldLink RX1 21 "RiverModel$Gauges" "mayBeOff" "I", Cond.methodLink RX1 57 yX1_reading, Cond.instanceMethod yX1_reading, Cond.selects RX1 yX1_reading yX1_reading, Cond.code yX1_reading cX1_reading 4 (some .long), Cond.fieldLink RX1 15 "RiverModel$Gauges" "places" "[I", Cond.fieldLink RX1 9 "RiverModel$Gauges" "whats" "[I", Cond.fieldLink RX1 41 "RiverModel$Course" "moved" "[J", Cond.fieldLink RX1 50 "RiverModel$Course" "held" "[J", Cond.methodLink RX1 35 yX1_isSet, Cond.instanceMethod yX1_isSet, Cond.selects RX1 yX1_isSet yX1_isSet, Cond.code yX1_isSet cX1_isSet 2 (some .boolean), Cond.methodLink RX9 121 yX9_draftBecomesModel, Cond.instanceMethod yX9_draftBecomesModel, Cond.selects RX9 yX9_draftBecomesModel yX9_draftBecomesModel, Cond.code yX9_draftBecomesModel cX9_draftBecomesModel 3 none, Cond.fieldLink RX9 33 "RiverModel" "isOtherLaid" "Z", Cond.fieldLink RX9 67 "RiverModel" "keptMany" "I", Cond.fieldLink RX9 53 "RiverModel" "now" "LRiverModel$Course;"]
def wsX9_take_r10 : List Cond := [Cond.fieldLink RX9 46 "RiverModel" "startsB" "[I", Cond.methodLink RX9 347 yX4_startOf]
def wsX9_take : List Cond := .code yX9_take cX9_take 2 (some .int) :: ((wsX9_take_r1 ++ (wsX9_take_r2 ++ (wsX9_take_r3 ++ (wsX9_take_r4 ++ (wsX9_take_r5 ++ (wsX9_take_r6 ++ (wsX9_take_r7 ++ (wsX9_take_r8 ++ (wsX9_take_r9 ++ wsX9_take_r10))))))))) ++ wsX90 ++ wsX30 ++ wsX40 ++ wsX00 ++ wsX10 ++ wsX60)
def wsX9_weigh : List Cond := .code yX9_weigh cX9_weigh 4 (some .int) :: ([.fieldLink RX9 88 "RiverModel" "worlds" "LRiverModel$Worlds;", .fieldLink RX9 259 "RiverModel$Worlds" "weights" "[I", .methodLink RX9 256 yX9_isNoWorld, .static yX9_isNoWorld, .initialized RX9, .code yX9_isNoWorld cX9_isNoWorld 1 (some .boolean), .methodLink RX9 99 yX9_isOutside, .static yX9_isOutside, .code yX9_isOutside cX9_isOutside 3 (some .boolean)] ++ wsX90 ++ wsX80)
def wsX9_rain : List Cond := .code yX9_rain cX9_rain 4 (some .int) :: ([.fieldLink RX9 88 "RiverModel" "worlds" "LRiverModel$Worlds;", .methodLink RX9 256 yX9_isNoWorld, .static yX9_isNoWorld, .initialized RX9, .code yX9_isNoWorld cX9_isNoWorld 1 (some .boolean), .methodLink RX9 99 yX9_isOutside, .static yX9_isOutside, .code yX9_isOutside cX9_isOutside 3 (some .boolean), .methodLink RX9 262 yX8_putRain, .instanceMethod yX8_putRain, .selects RX8 yX8_putRain yX8_putRain, .initialized RX8, .code yX8_putRain cX8_putRain 5 (some .int), .fieldLink RX8 18 "RiverModel$Worlds" "rains" "[I", .methodLink RX8 21 yX8_rainAhead, .instanceMethod yX8_rainAhead, .selects RX8 yX8_rainAhead yX8_rainAhead, .code yX8_rainAhead cX8_rainAhead 3 (some .int)] ++ wsX90 ++ wsX80)
def wsX9_isBeyond : List Cond := .code yX9_isBeyond cX9_isBeyond 2 (some .boolean) :: ([.fieldLink RX9 53 "RiverModel" "now" "LRiverModel$Course;", .fieldLink RX9 144 "RiverModel$Course" "hours" "I"] ++ wsX90 ++ wsX00)
def wsX9_peakAhead_r1 : List Cond := [Cond.fieldLink RX9 57 "RiverModel" "trial" "LRiverModel$Course;", Cond.fieldLink RX9 53 "RiverModel" "now" "LRiverModel$Course;", Cond.fieldLink RX9 144 "RiverModel$Course" "hours" "I", Cond.fieldLink RX9 39 "RiverModel" "skyA" "LRiverModel$Sky;", Cond.fieldLink RX9 88 "RiverModel" "worlds" "LRiverModel$Worlds;", Cond.fieldLink RX9 19 "RiverModel" "model" "LRiverModel$Model;", Cond.fieldLink RX9 74 "RiverModel" "gauges" "LRiverModel$Gauges;", Cond.methodLink RX9 374 Lib.MathLoose.max_long.x, Cond.static Lib.MathLoose.max_long.x, Cond.initialized "java/lang/Math", Cond.code Lib.MathLoose.max_long.x Lib.MathLoose.max_long.code 4 (some .long), Cond.methodLink RX9 330 yX0_copyFrom, Cond.instanceMethod yX0_copyFrom, Cond.selects RX0 yX0_copyFrom yX0_copyFrom, Cond.initialized RX0, Cond.code yX0_copyFrom cX0_copyFrom 2 none, Cond.fieldLink RX0 9 "RiverModel$Course" "held" "[J", Cond.methodLink RX0 54 arraycopyName, Cond.native arraycopyName, Cond.static arraycopyName, Cond.initialized "java/lang/System", Cond.fieldLink RX0 15 "RiverModel$Course" "moved" "[J", Cond.fieldLink RX0 18 "RiverModel$Course" "openings" "[I", Cond.fieldLink RX0 22 "RiverModel$Course" "due" "[J"]
def wsX9_peakAhead_r2 : List Cond := [Cond.fieldLink RX0 25 "RiverModel$Course" "rained" "J", Cond.fieldLink RX0 29 "RiverModel$Course" "air" "J", Cond.fieldLink RX0 32 "RiverModel$Course" "sea" "J", Cond.fieldLink RX0 35 "RiverModel$Course" "hours" "I", Cond.methodLink RX9 357 yX6_rainIn, Cond.instanceMethod yX6_rainIn, Cond.selects RX6 yX6_rainIn yX6_rainIn, Cond.initialized RX6, Cond.code yX6_rainIn cX6_rainIn 2 (some .int), Cond.fieldLink RX6 9 "RiverModel$Sky" "rains" "[I", Cond.static yX9_isOutside, Cond.initialized RX9, Cond.code yX9_isOutside cX9_isOutside 3 (some .boolean), Cond.methodLink RX9 371 yX8_rainAhead, Cond.instanceMethod yX8_rainAhead, Cond.selects RX8 yX8_rainAhead yX8_rainAhead, Cond.initialized RX8, Cond.code yX8_rainAhead cX8_rainAhead 3 (some .int), Cond.fieldLink RX8 18 "RiverModel$Worlds" "rains" "[I", Cond.static yX9_isNoWorld, Cond.code yX9_isNoWorld cX9_isNoWorld 1 (some .boolean), Cond.methodLink RX9 360 yX6_tempIn, Cond.instanceMethod yX6_tempIn, Cond.selects RX6 yX6_tempIn yX6_tempIn]
def wsX9_peakAhead_r3 : List Cond := [Cond.code yX6_tempIn cX6_tempIn 2 (some .int), Cond.fieldLink RX6 15 "RiverModel$Sky" "temps" "[I", Cond.methodLink RX9 363 yX0_goHour, Cond.instanceMethod yX0_goHour, Cond.selects RX0 yX0_goHour yX0_goHour, Cond.code yX0_goHour cX0_goHour 7 none, Cond.fieldLink RX0 75 "RiverModel$Model" "many" "I", Cond.methodLink RX0 72 yX0_bringDue, Cond.instanceMethod yX0_bringDue, Cond.selects RX0 yX0_bringDue yX0_bringDue, Cond.code yX0_bringDue cX0_bringDue 3 none, Cond.methodLink RX0 78 yX0_amountOf, Cond.instanceMethod yX0_amountOf, Cond.selects RX0 yX0_amountOf yX0_amountOf, Cond.code yX0_amountOf cX0_amountOf 11 (some .long), Cond.methodLink RX0 101 Lib.MathLoose.max_long.x, Cond.methodLink RX0 107 Lib.MathLoose.min_long.x, Cond.static Lib.MathLoose.min_long.x, Cond.code Lib.MathLoose.min_long.x Lib.MathLoose.min_long.code 4 (some .long), Cond.constantLong RX0 117 (100), Cond.constantLong RX0 119 (10), Cond.methodLink RX0 86 yX4_cell, Cond.instanceMethod yX4_cell, Cond.selects RX4 yX4_cell yX4_cell]
def wsX9_peakAhead_r4 : List Cond := [Cond.initialized RX4, Cond.code yX4_cell cX4_cell 3 (some .int), Cond.fieldLink RX4 9 "RiverModel$Model" "cells" "[I", Cond.static yX9_isNoStore, Cond.code yX9_isNoStore cX9_isNoStore 1 (some .boolean), Cond.methodLink RX0 94 yX0_leakOf, Cond.static yX0_leakOf, Cond.code yX0_leakOf cX0_leakOf 8 (some .long), Cond.methodLink RX0 98 yX4_capacityOf, Cond.instanceMethod yX4_capacityOf, Cond.selects RX4 yX4_capacityOf yX4_capacityOf, Cond.code yX4_capacityOf cX4_capacityOf 2 (some .int), Cond.fieldLink RX4 15 "RiverModel$Model" "storeItems" "[I", Cond.methodLink RX4 66 yX4_hasStore, Cond.instanceMethod yX4_hasStore, Cond.selects RX4 yX4_hasStore yX4_hasStore, Cond.code yX4_hasStore cX4_hasStore 2 (some .boolean), Cond.methodLink RX4 73 yX4_cell, Cond.methodLink RX0 110 yX4_gateOf, Cond.instanceMethod yX4_gateOf, Cond.selects RX4 yX4_gateOf yX4_gateOf, Cond.code yX4_gateOf cX4_gateOf 3 (some .int), Cond.fieldLink RX4 28 "RiverModel$Model" "gates" "I", Cond.fieldLink RX4 18 "RiverModel$Model" "gateItems" "[I"]
def wsX9_peakAhead_r5 : List Cond := [Cond.methodLink RX0 113 yX0_openingOf, Cond.instanceMethod yX0_openingOf, Cond.selects RX0 yX0_openingOf yX0_openingOf, Cond.code yX0_openingOf cX0_openingOf 2 (some .long), Cond.static yX9_isNoGate, Cond.code yX9_isNoGate cX9_isNoGate 1 (some .boolean), Cond.methodLink RX0 82 yX0_move, Cond.instanceMethod yX0_move, Cond.selects RX0 yX0_move yX0_move, Cond.code yX0_move cX0_move 8 none, Cond.methodLink RX0 124 yX0_send, Cond.instanceMethod yX0_send, Cond.selects RX0 yX0_send yX0_send, Cond.code yX0_send cX0_send 5 none, Cond.methodLink RX9 215 yX1_reading, Cond.instanceMethod yX1_reading, Cond.selects RX1 yX1_reading yX1_reading, Cond.initialized RX1, Cond.code yX1_reading cX1_reading 4 (some .long), Cond.fieldLink RX1 15 "RiverModel$Gauges" "places" "[I", Cond.fieldLink RX1 9 "RiverModel$Gauges" "whats" "[I", Cond.fieldLink RX1 41 "RiverModel$Course" "moved" "[J", Cond.fieldLink RX1 50 "RiverModel$Course" "held" "[J", Cond.methodLink RX1 35 yX1_isSet]
def wsX9_peakAhead_r6 : List Cond := [Cond.instanceMethod yX1_isSet, Cond.selects RX1 yX1_isSet yX1_isSet, Cond.code yX1_isSet cX1_isSet 2 (some .boolean), Cond.static yX9_isNoItem, Cond.code yX9_isNoItem cX9_isNoItem 1 (some .boolean)]
def wsX9_peakAhead : List Cond := .code yX9_peakAhead cX9_peakAhead 9 (some .long) :: ((wsX9_peakAhead_r1 ++ (wsX9_peakAhead_r2 ++ (wsX9_peakAhead_r3 ++ (wsX9_peakAhead_r4 ++ (wsX9_peakAhead_r5 ++ wsX9_peakAhead_r6))))) ++ wsX90 ++ wsX00 ++ wsX60 ++ wsX80 ++ wsX40 ++ wsX10)
def wsX9_weightAbove_r1 : List Cond := [Cond.fieldLink RX9 88 "RiverModel" "worlds" "LRiverModel$Worlds;", Cond.fieldLink RX9 259 "RiverModel$Worlds" "weights" "[I", Cond.methodLink RX9 275 yX9_peakAhead, Cond.instanceMethod yX9_peakAhead, Cond.selects RX9 yX9_peakAhead yX9_peakAhead, Cond.initialized RX9, Cond.code yX9_peakAhead cX9_peakAhead 9 (some .long), Cond.fieldLink RX9 57 "RiverModel" "trial" "LRiverModel$Course;", Cond.fieldLink RX9 53 "RiverModel" "now" "LRiverModel$Course;", Cond.fieldLink RX9 144 "RiverModel$Course" "hours" "I", Cond.fieldLink RX9 39 "RiverModel" "skyA" "LRiverModel$Sky;", Cond.fieldLink RX9 19 "RiverModel" "model" "LRiverModel$Model;", Cond.fieldLink RX9 74 "RiverModel" "gauges" "LRiverModel$Gauges;", Cond.methodLink RX9 374 Lib.MathLoose.max_long.x, Cond.static Lib.MathLoose.max_long.x, Cond.initialized "java/lang/Math", Cond.code Lib.MathLoose.max_long.x Lib.MathLoose.max_long.code 4 (some .long), Cond.methodLink RX9 330 yX0_copyFrom, Cond.instanceMethod yX0_copyFrom, Cond.selects RX0 yX0_copyFrom yX0_copyFrom, Cond.initialized RX0, Cond.code yX0_copyFrom cX0_copyFrom 2 none, Cond.fieldLink RX0 9 "RiverModel$Course" "held" "[J", Cond.methodLink RX0 54 arraycopyName]
def wsX9_weightAbove_r2 : List Cond := [Cond.native arraycopyName, Cond.static arraycopyName, Cond.initialized "java/lang/System", Cond.fieldLink RX0 15 "RiverModel$Course" "moved" "[J", Cond.fieldLink RX0 18 "RiverModel$Course" "openings" "[I", Cond.fieldLink RX0 22 "RiverModel$Course" "due" "[J", Cond.fieldLink RX0 25 "RiverModel$Course" "rained" "J", Cond.fieldLink RX0 29 "RiverModel$Course" "air" "J", Cond.fieldLink RX0 32 "RiverModel$Course" "sea" "J", Cond.fieldLink RX0 35 "RiverModel$Course" "hours" "I", Cond.methodLink RX9 357 yX6_rainIn, Cond.instanceMethod yX6_rainIn, Cond.selects RX6 yX6_rainIn yX6_rainIn, Cond.initialized RX6, Cond.code yX6_rainIn cX6_rainIn 2 (some .int), Cond.fieldLink RX6 9 "RiverModel$Sky" "rains" "[I", Cond.static yX9_isOutside, Cond.code yX9_isOutside cX9_isOutside 3 (some .boolean), Cond.methodLink RX9 371 yX8_rainAhead, Cond.instanceMethod yX8_rainAhead, Cond.selects RX8 yX8_rainAhead yX8_rainAhead, Cond.initialized RX8, Cond.code yX8_rainAhead cX8_rainAhead 3 (some .int), Cond.fieldLink RX8 18 "RiverModel$Worlds" "rains" "[I"]
def wsX9_weightAbove_r3 : List Cond := [Cond.static yX9_isNoWorld, Cond.code yX9_isNoWorld cX9_isNoWorld 1 (some .boolean), Cond.methodLink RX9 360 yX6_tempIn, Cond.instanceMethod yX6_tempIn, Cond.selects RX6 yX6_tempIn yX6_tempIn, Cond.code yX6_tempIn cX6_tempIn 2 (some .int), Cond.fieldLink RX6 15 "RiverModel$Sky" "temps" "[I", Cond.methodLink RX9 363 yX0_goHour, Cond.instanceMethod yX0_goHour, Cond.selects RX0 yX0_goHour yX0_goHour, Cond.code yX0_goHour cX0_goHour 7 none, Cond.fieldLink RX0 75 "RiverModel$Model" "many" "I", Cond.methodLink RX0 72 yX0_bringDue, Cond.instanceMethod yX0_bringDue, Cond.selects RX0 yX0_bringDue yX0_bringDue, Cond.code yX0_bringDue cX0_bringDue 3 none, Cond.methodLink RX0 78 yX0_amountOf, Cond.instanceMethod yX0_amountOf, Cond.selects RX0 yX0_amountOf yX0_amountOf, Cond.code yX0_amountOf cX0_amountOf 11 (some .long), Cond.methodLink RX0 101 Lib.MathLoose.max_long.x, Cond.methodLink RX0 107 Lib.MathLoose.min_long.x, Cond.static Lib.MathLoose.min_long.x, Cond.code Lib.MathLoose.min_long.x Lib.MathLoose.min_long.code 4 (some .long)]
def wsX9_weightAbove_r4 : List Cond := [Cond.constantLong RX0 117 (100), Cond.constantLong RX0 119 (10), Cond.methodLink RX0 86 yX4_cell, Cond.instanceMethod yX4_cell, Cond.selects RX4 yX4_cell yX4_cell, Cond.initialized RX4, Cond.code yX4_cell cX4_cell 3 (some .int), Cond.fieldLink RX4 9 "RiverModel$Model" "cells" "[I", Cond.static yX9_isNoStore, Cond.code yX9_isNoStore cX9_isNoStore 1 (some .boolean), Cond.methodLink RX0 94 yX0_leakOf, Cond.static yX0_leakOf, Cond.code yX0_leakOf cX0_leakOf 8 (some .long), Cond.methodLink RX0 98 yX4_capacityOf, Cond.instanceMethod yX4_capacityOf, Cond.selects RX4 yX4_capacityOf yX4_capacityOf, Cond.code yX4_capacityOf cX4_capacityOf 2 (some .int), Cond.fieldLink RX4 15 "RiverModel$Model" "storeItems" "[I", Cond.methodLink RX4 66 yX4_hasStore, Cond.instanceMethod yX4_hasStore, Cond.selects RX4 yX4_hasStore yX4_hasStore, Cond.code yX4_hasStore cX4_hasStore 2 (some .boolean), Cond.methodLink RX4 73 yX4_cell, Cond.methodLink RX0 110 yX4_gateOf]
def wsX9_weightAbove_r5 : List Cond := [Cond.instanceMethod yX4_gateOf, Cond.selects RX4 yX4_gateOf yX4_gateOf, Cond.code yX4_gateOf cX4_gateOf 3 (some .int), Cond.fieldLink RX4 28 "RiverModel$Model" "gates" "I", Cond.fieldLink RX4 18 "RiverModel$Model" "gateItems" "[I", Cond.methodLink RX0 113 yX0_openingOf, Cond.instanceMethod yX0_openingOf, Cond.selects RX0 yX0_openingOf yX0_openingOf, Cond.code yX0_openingOf cX0_openingOf 2 (some .long), Cond.static yX9_isNoGate, Cond.code yX9_isNoGate cX9_isNoGate 1 (some .boolean), Cond.methodLink RX0 82 yX0_move, Cond.instanceMethod yX0_move, Cond.selects RX0 yX0_move yX0_move, Cond.code yX0_move cX0_move 8 none, Cond.methodLink RX0 124 yX0_send, Cond.instanceMethod yX0_send, Cond.selects RX0 yX0_send yX0_send, Cond.code yX0_send cX0_send 5 none, Cond.methodLink RX9 215 yX1_reading, Cond.instanceMethod yX1_reading, Cond.selects RX1 yX1_reading yX1_reading, Cond.initialized RX1, Cond.code yX1_reading cX1_reading 4 (some .long)]
def wsX9_weightAbove_r6 : List Cond := [Cond.fieldLink RX1 15 "RiverModel$Gauges" "places" "[I", Cond.fieldLink RX1 9 "RiverModel$Gauges" "whats" "[I", Cond.fieldLink RX1 41 "RiverModel$Course" "moved" "[J", Cond.fieldLink RX1 50 "RiverModel$Course" "held" "[J", Cond.methodLink RX1 35 yX1_isSet, Cond.instanceMethod yX1_isSet, Cond.selects RX1 yX1_isSet yX1_isSet, Cond.code yX1_isSet cX1_isSet 2 (some .boolean), Cond.static yX9_isNoItem, Cond.code yX9_isNoItem cX9_isNoItem 1 (some .boolean)]
def wsX9_weightAbove : List Cond := .code yX9_weightAbove cX9_weightAbove 8 (some .int) :: ((wsX9_weightAbove_r1 ++ (wsX9_weightAbove_r2 ++ (wsX9_weightAbove_r3 ++ (wsX9_weightAbove_r4 ++ (wsX9_weightAbove_r5 ++ wsX9_weightAbove_r6))))) ++ wsX90 ++ wsX80 ++ wsX00 ++ wsX60 ++ wsX40 ++ wsX10)
def wsX9_chance_r1 : List Cond := [Cond.methodLink RX9 205 yX9_isNoGauge, Cond.static yX9_isNoGauge, Cond.initialized RX9, Cond.code yX9_isNoGauge cX9_isNoGauge 1 (some .boolean), Cond.methodLink RX9 99 yX9_isOutside, Cond.static yX9_isOutside, Cond.code yX9_isOutside cX9_isOutside 3 (some .boolean), Cond.methodLink RX9 212 yX9_lacksGauge, Cond.instanceMethod yX9_lacksGauge, Cond.selects RX9 yX9_lacksGauge yX9_lacksGauge, Cond.code yX9_lacksGauge cX9_lacksGauge 2 (some .boolean), Cond.fieldLink RX9 29 "RiverModel" "isBuilt" "Z", Cond.fieldLink RX9 74 "RiverModel" "gauges" "LRiverModel$Gauges;", Cond.methodLink RX9 346 yX1_isSet, Cond.instanceMethod yX1_isSet, Cond.selects RX1 yX1_isSet yX1_isSet, Cond.initialized RX1, Cond.code yX1_isSet cX1_isSet 2 (some .boolean), Cond.fieldLink RX1 9 "RiverModel$Gauges" "whats" "[I", Cond.methodLink RX9 265 yX9_isBeyond, Cond.instanceMethod yX9_isBeyond, Cond.selects RX9 yX9_isBeyond yX9_isBeyond, Cond.code yX9_isBeyond cX9_isBeyond 2 (some .boolean), Cond.fieldLink RX9 53 "RiverModel" "now" "LRiverModel$Course;"]
def wsX9_chance_r2 : List Cond := [Cond.fieldLink RX9 144 "RiverModel$Course" "hours" "I", Cond.methodLink RX9 268 yX9_weightAbove, Cond.instanceMethod yX9_weightAbove, Cond.selects RX9 yX9_weightAbove yX9_weightAbove, Cond.code yX9_weightAbove cX9_weightAbove 8 (some .int), Cond.fieldLink RX9 88 "RiverModel" "worlds" "LRiverModel$Worlds;", Cond.fieldLink RX9 259 "RiverModel$Worlds" "weights" "[I", Cond.methodLink RX9 275 yX9_peakAhead, Cond.instanceMethod yX9_peakAhead, Cond.selects RX9 yX9_peakAhead yX9_peakAhead, Cond.code yX9_peakAhead cX9_peakAhead 9 (some .long), Cond.fieldLink RX9 57 "RiverModel" "trial" "LRiverModel$Course;", Cond.fieldLink RX9 39 "RiverModel" "skyA" "LRiverModel$Sky;", Cond.fieldLink RX9 19 "RiverModel" "model" "LRiverModel$Model;", Cond.methodLink RX9 374 Lib.MathLoose.max_long.x, Cond.static Lib.MathLoose.max_long.x, Cond.initialized "java/lang/Math", Cond.code Lib.MathLoose.max_long.x Lib.MathLoose.max_long.code 4 (some .long), Cond.methodLink RX9 330 yX0_copyFrom, Cond.instanceMethod yX0_copyFrom, Cond.selects RX0 yX0_copyFrom yX0_copyFrom, Cond.initialized RX0, Cond.code yX0_copyFrom cX0_copyFrom 2 none, Cond.fieldLink RX0 9 "RiverModel$Course" "held" "[J"]
def wsX9_chance_r3 : List Cond := [Cond.methodLink RX0 54 arraycopyName, Cond.native arraycopyName, Cond.static arraycopyName, Cond.initialized "java/lang/System", Cond.fieldLink RX0 15 "RiverModel$Course" "moved" "[J", Cond.fieldLink RX0 18 "RiverModel$Course" "openings" "[I", Cond.fieldLink RX0 22 "RiverModel$Course" "due" "[J", Cond.fieldLink RX0 25 "RiverModel$Course" "rained" "J", Cond.fieldLink RX0 29 "RiverModel$Course" "air" "J", Cond.fieldLink RX0 32 "RiverModel$Course" "sea" "J", Cond.fieldLink RX0 35 "RiverModel$Course" "hours" "I", Cond.methodLink RX9 357 yX6_rainIn, Cond.instanceMethod yX6_rainIn, Cond.selects RX6 yX6_rainIn yX6_rainIn, Cond.initialized RX6, Cond.code yX6_rainIn cX6_rainIn 2 (some .int), Cond.fieldLink RX6 9 "RiverModel$Sky" "rains" "[I", Cond.methodLink RX9 371 yX8_rainAhead, Cond.instanceMethod yX8_rainAhead, Cond.selects RX8 yX8_rainAhead yX8_rainAhead, Cond.initialized RX8, Cond.code yX8_rainAhead cX8_rainAhead 3 (some .int), Cond.fieldLink RX8 18 "RiverModel$Worlds" "rains" "[I", Cond.static yX9_isNoWorld]
def wsX9_chance_r4 : List Cond := [Cond.code yX9_isNoWorld cX9_isNoWorld 1 (some .boolean), Cond.methodLink RX9 360 yX6_tempIn, Cond.instanceMethod yX6_tempIn, Cond.selects RX6 yX6_tempIn yX6_tempIn, Cond.code yX6_tempIn cX6_tempIn 2 (some .int), Cond.fieldLink RX6 15 "RiverModel$Sky" "temps" "[I", Cond.methodLink RX9 363 yX0_goHour, Cond.instanceMethod yX0_goHour, Cond.selects RX0 yX0_goHour yX0_goHour, Cond.code yX0_goHour cX0_goHour 7 none, Cond.fieldLink RX0 75 "RiverModel$Model" "many" "I", Cond.methodLink RX0 72 yX0_bringDue, Cond.instanceMethod yX0_bringDue, Cond.selects RX0 yX0_bringDue yX0_bringDue, Cond.code yX0_bringDue cX0_bringDue 3 none, Cond.methodLink RX0 78 yX0_amountOf, Cond.instanceMethod yX0_amountOf, Cond.selects RX0 yX0_amountOf yX0_amountOf, Cond.code yX0_amountOf cX0_amountOf 11 (some .long), Cond.methodLink RX0 101 Lib.MathLoose.max_long.x, Cond.methodLink RX0 107 Lib.MathLoose.min_long.x, Cond.static Lib.MathLoose.min_long.x, Cond.code Lib.MathLoose.min_long.x Lib.MathLoose.min_long.code 4 (some .long), Cond.constantLong RX0 117 (100)]
def wsX9_chance_r5 : List Cond := [Cond.constantLong RX0 119 (10), Cond.methodLink RX0 86 yX4_cell, Cond.instanceMethod yX4_cell, Cond.selects RX4 yX4_cell yX4_cell, Cond.initialized RX4, Cond.code yX4_cell cX4_cell 3 (some .int), Cond.fieldLink RX4 9 "RiverModel$Model" "cells" "[I", Cond.static yX9_isNoStore, Cond.code yX9_isNoStore cX9_isNoStore 1 (some .boolean), Cond.methodLink RX0 94 yX0_leakOf, Cond.static yX0_leakOf, Cond.code yX0_leakOf cX0_leakOf 8 (some .long), Cond.methodLink RX0 98 yX4_capacityOf, Cond.instanceMethod yX4_capacityOf, Cond.selects RX4 yX4_capacityOf yX4_capacityOf, Cond.code yX4_capacityOf cX4_capacityOf 2 (some .int), Cond.fieldLink RX4 15 "RiverModel$Model" "storeItems" "[I", Cond.methodLink RX4 66 yX4_hasStore, Cond.instanceMethod yX4_hasStore, Cond.selects RX4 yX4_hasStore yX4_hasStore, Cond.code yX4_hasStore cX4_hasStore 2 (some .boolean), Cond.methodLink RX4 73 yX4_cell, Cond.methodLink RX0 110 yX4_gateOf, Cond.instanceMethod yX4_gateOf]
def wsX9_chance_r6 : List Cond := [Cond.selects RX4 yX4_gateOf yX4_gateOf, Cond.code yX4_gateOf cX4_gateOf 3 (some .int), Cond.fieldLink RX4 28 "RiverModel$Model" "gates" "I", Cond.fieldLink RX4 18 "RiverModel$Model" "gateItems" "[I", Cond.methodLink RX0 113 yX0_openingOf, Cond.instanceMethod yX0_openingOf, Cond.selects RX0 yX0_openingOf yX0_openingOf, Cond.code yX0_openingOf cX0_openingOf 2 (some .long), Cond.static yX9_isNoGate, Cond.code yX9_isNoGate cX9_isNoGate 1 (some .boolean), Cond.methodLink RX0 82 yX0_move, Cond.instanceMethod yX0_move, Cond.selects RX0 yX0_move yX0_move, Cond.code yX0_move cX0_move 8 none, Cond.methodLink RX0 124 yX0_send, Cond.instanceMethod yX0_send, Cond.selects RX0 yX0_send yX0_send, Cond.code yX0_send cX0_send 5 none, Cond.methodLink RX9 215 yX1_reading, Cond.instanceMethod yX1_reading, Cond.selects RX1 yX1_reading yX1_reading, Cond.code yX1_reading cX1_reading 4 (some .long), Cond.fieldLink RX1 15 "RiverModel$Gauges" "places" "[I", Cond.fieldLink RX1 41 "RiverModel$Course" "moved" "[J"]
def wsX9_chance_r7 : List Cond := [Cond.fieldLink RX1 50 "RiverModel$Course" "held" "[J", Cond.methodLink RX1 35 yX1_isSet, Cond.static yX9_isNoItem, Cond.code yX9_isNoItem cX9_isNoItem 1 (some .boolean)]
def wsX9_chance : List Cond := .code yX9_chance cX9_chance 5 (some .int) :: ((wsX9_chance_r1 ++ (wsX9_chance_r2 ++ (wsX9_chance_r3 ++ (wsX9_chance_r4 ++ (wsX9_chance_r5 ++ (wsX9_chance_r6 ++ wsX9_chance_r7)))))) ++ wsX90 ++ wsX10 ++ wsX00 ++ wsX80 ++ wsX60 ++ wsX40)
def wsX9_warn_r1 : List Cond := [Cond.fieldLink RX9 88 "RiverModel" "worlds" "LRiverModel$Worlds;", Cond.methodLink RX9 205 yX9_isNoGauge, Cond.static yX9_isNoGauge, Cond.initialized RX9, Cond.code yX9_isNoGauge cX9_isNoGauge 1 (some .boolean), Cond.methodLink RX9 99 yX9_isOutside, Cond.static yX9_isOutside, Cond.code yX9_isOutside cX9_isOutside 3 (some .boolean), Cond.methodLink RX9 212 yX9_lacksGauge, Cond.instanceMethod yX9_lacksGauge, Cond.selects RX9 yX9_lacksGauge yX9_lacksGauge, Cond.code yX9_lacksGauge cX9_lacksGauge 2 (some .boolean), Cond.fieldLink RX9 29 "RiverModel" "isBuilt" "Z", Cond.fieldLink RX9 74 "RiverModel" "gauges" "LRiverModel$Gauges;", Cond.methodLink RX9 346 yX1_isSet, Cond.instanceMethod yX1_isSet, Cond.selects RX1 yX1_isSet yX1_isSet, Cond.initialized RX1, Cond.code yX1_isSet cX1_isSet 2 (some .boolean), Cond.fieldLink RX1 9 "RiverModel$Gauges" "whats" "[I", Cond.methodLink RX9 265 yX9_isBeyond, Cond.instanceMethod yX9_isBeyond, Cond.selects RX9 yX9_isBeyond yX9_isBeyond, Cond.code yX9_isBeyond cX9_isBeyond 2 (some .boolean)]
def wsX9_warn_r2 : List Cond := [Cond.fieldLink RX9 53 "RiverModel" "now" "LRiverModel$Course;", Cond.fieldLink RX9 144 "RiverModel$Course" "hours" "I", Cond.methodLink RX9 268 yX9_weightAbove, Cond.instanceMethod yX9_weightAbove, Cond.selects RX9 yX9_weightAbove yX9_weightAbove, Cond.code yX9_weightAbove cX9_weightAbove 8 (some .int), Cond.fieldLink RX9 259 "RiverModel$Worlds" "weights" "[I", Cond.methodLink RX9 275 yX9_peakAhead, Cond.instanceMethod yX9_peakAhead, Cond.selects RX9 yX9_peakAhead yX9_peakAhead, Cond.code yX9_peakAhead cX9_peakAhead 9 (some .long), Cond.fieldLink RX9 57 "RiverModel" "trial" "LRiverModel$Course;", Cond.fieldLink RX9 39 "RiverModel" "skyA" "LRiverModel$Sky;", Cond.fieldLink RX9 19 "RiverModel" "model" "LRiverModel$Model;", Cond.methodLink RX9 374 Lib.MathLoose.max_long.x, Cond.static Lib.MathLoose.max_long.x, Cond.initialized "java/lang/Math", Cond.code Lib.MathLoose.max_long.x Lib.MathLoose.max_long.code 4 (some .long), Cond.methodLink RX9 330 yX0_copyFrom, Cond.instanceMethod yX0_copyFrom, Cond.selects RX0 yX0_copyFrom yX0_copyFrom, Cond.initialized RX0, Cond.code yX0_copyFrom cX0_copyFrom 2 none, Cond.fieldLink RX0 9 "RiverModel$Course" "held" "[J"]
def wsX9_warn_r3 : List Cond := [Cond.methodLink RX0 54 arraycopyName, Cond.native arraycopyName, Cond.static arraycopyName, Cond.initialized "java/lang/System", Cond.fieldLink RX0 15 "RiverModel$Course" "moved" "[J", Cond.fieldLink RX0 18 "RiverModel$Course" "openings" "[I", Cond.fieldLink RX0 22 "RiverModel$Course" "due" "[J", Cond.fieldLink RX0 25 "RiverModel$Course" "rained" "J", Cond.fieldLink RX0 29 "RiverModel$Course" "air" "J", Cond.fieldLink RX0 32 "RiverModel$Course" "sea" "J", Cond.fieldLink RX0 35 "RiverModel$Course" "hours" "I", Cond.methodLink RX9 357 yX6_rainIn, Cond.instanceMethod yX6_rainIn, Cond.selects RX6 yX6_rainIn yX6_rainIn, Cond.initialized RX6, Cond.code yX6_rainIn cX6_rainIn 2 (some .int), Cond.fieldLink RX6 9 "RiverModel$Sky" "rains" "[I", Cond.methodLink RX9 371 yX8_rainAhead, Cond.instanceMethod yX8_rainAhead, Cond.selects RX8 yX8_rainAhead yX8_rainAhead, Cond.initialized RX8, Cond.code yX8_rainAhead cX8_rainAhead 3 (some .int), Cond.fieldLink RX8 18 "RiverModel$Worlds" "rains" "[I", Cond.static yX9_isNoWorld]
def wsX9_warn_r4 : List Cond := [Cond.code yX9_isNoWorld cX9_isNoWorld 1 (some .boolean), Cond.methodLink RX9 360 yX6_tempIn, Cond.instanceMethod yX6_tempIn, Cond.selects RX6 yX6_tempIn yX6_tempIn, Cond.code yX6_tempIn cX6_tempIn 2 (some .int), Cond.fieldLink RX6 15 "RiverModel$Sky" "temps" "[I", Cond.methodLink RX9 363 yX0_goHour, Cond.instanceMethod yX0_goHour, Cond.selects RX0 yX0_goHour yX0_goHour, Cond.code yX0_goHour cX0_goHour 7 none, Cond.fieldLink RX0 75 "RiverModel$Model" "many" "I", Cond.methodLink RX0 72 yX0_bringDue, Cond.instanceMethod yX0_bringDue, Cond.selects RX0 yX0_bringDue yX0_bringDue, Cond.code yX0_bringDue cX0_bringDue 3 none, Cond.methodLink RX0 78 yX0_amountOf, Cond.instanceMethod yX0_amountOf, Cond.selects RX0 yX0_amountOf yX0_amountOf, Cond.code yX0_amountOf cX0_amountOf 11 (some .long), Cond.methodLink RX0 101 Lib.MathLoose.max_long.x, Cond.methodLink RX0 107 Lib.MathLoose.min_long.x, Cond.static Lib.MathLoose.min_long.x, Cond.code Lib.MathLoose.min_long.x Lib.MathLoose.min_long.code 4 (some .long), Cond.constantLong RX0 117 (100)]
def wsX9_warn_r5 : List Cond := [Cond.constantLong RX0 119 (10), Cond.methodLink RX0 86 yX4_cell, Cond.instanceMethod yX4_cell, Cond.selects RX4 yX4_cell yX4_cell, Cond.initialized RX4, Cond.code yX4_cell cX4_cell 3 (some .int), Cond.fieldLink RX4 9 "RiverModel$Model" "cells" "[I", Cond.static yX9_isNoStore, Cond.code yX9_isNoStore cX9_isNoStore 1 (some .boolean), Cond.methodLink RX0 94 yX0_leakOf, Cond.static yX0_leakOf, Cond.code yX0_leakOf cX0_leakOf 8 (some .long), Cond.methodLink RX0 98 yX4_capacityOf, Cond.instanceMethod yX4_capacityOf, Cond.selects RX4 yX4_capacityOf yX4_capacityOf, Cond.code yX4_capacityOf cX4_capacityOf 2 (some .int), Cond.fieldLink RX4 15 "RiverModel$Model" "storeItems" "[I", Cond.methodLink RX4 66 yX4_hasStore, Cond.instanceMethod yX4_hasStore, Cond.selects RX4 yX4_hasStore yX4_hasStore, Cond.code yX4_hasStore cX4_hasStore 2 (some .boolean), Cond.methodLink RX4 73 yX4_cell, Cond.methodLink RX0 110 yX4_gateOf, Cond.instanceMethod yX4_gateOf]
def wsX9_warn_r6 : List Cond := [Cond.selects RX4 yX4_gateOf yX4_gateOf, Cond.code yX4_gateOf cX4_gateOf 3 (some .int), Cond.fieldLink RX4 28 "RiverModel$Model" "gates" "I", Cond.fieldLink RX4 18 "RiverModel$Model" "gateItems" "[I", Cond.methodLink RX0 113 yX0_openingOf, Cond.instanceMethod yX0_openingOf, Cond.selects RX0 yX0_openingOf yX0_openingOf, Cond.code yX0_openingOf cX0_openingOf 2 (some .long), Cond.static yX9_isNoGate, Cond.code yX9_isNoGate cX9_isNoGate 1 (some .boolean), Cond.methodLink RX0 82 yX0_move, Cond.instanceMethod yX0_move, Cond.selects RX0 yX0_move yX0_move, Cond.code yX0_move cX0_move 8 none, Cond.methodLink RX0 124 yX0_send, Cond.instanceMethod yX0_send, Cond.selects RX0 yX0_send yX0_send, Cond.code yX0_send cX0_send 5 none, Cond.methodLink RX9 215 yX1_reading, Cond.instanceMethod yX1_reading, Cond.selects RX1 yX1_reading yX1_reading, Cond.code yX1_reading cX1_reading 4 (some .long), Cond.fieldLink RX1 15 "RiverModel$Gauges" "places" "[I", Cond.fieldLink RX1 41 "RiverModel$Course" "moved" "[J"]
def wsX9_warn_r7 : List Cond := [Cond.fieldLink RX1 50 "RiverModel$Course" "held" "[J", Cond.methodLink RX1 35 yX1_isSet, Cond.static yX9_isNoItem, Cond.code yX9_isNoItem cX9_isNoItem 1 (some .boolean), Cond.methodLink RX9 272 yX8_weightOfAll, Cond.instanceMethod yX8_weightOfAll, Cond.selects RX8 yX8_weightOfAll yX8_weightOfAll, Cond.code yX8_weightOfAll cX8_weightOfAll 3 (some .int), Cond.fieldLink RX8 9 "RiverModel$Worlds" "weights" "[I", Cond.methodLink RX9 279 yX8_enter, Cond.instanceMethod yX8_enter, Cond.selects RX8 yX8_enter yX8_enter, Cond.code yX8_enter cX8_enter 3 none, Cond.fieldLink RX8 15 "RiverModel$Worlds" "warnings" "[I"]
def wsX9_warn : List Cond := .code yX9_warn cX9_warn 8 (some .int) :: ((wsX9_warn_r1 ++ (wsX9_warn_r2 ++ (wsX9_warn_r3 ++ (wsX9_warn_r4 ++ (wsX9_warn_r5 ++ (wsX9_warn_r6 ++ wsX9_warn_r7)))))) ++ wsX90 ++ wsX10 ++ wsX00 ++ wsX80 ++ wsX60 ++ wsX40)
def wsX9_booked : List Cond := .code yX9_booked cX9_booked 2 (some .int) :: ([.fieldLink RX9 88 "RiverModel" "worlds" "LRiverModel$Worlds;", .fieldLink RX9 283 "RiverModel$Worlds" "warnings" "[I", .methodLink RX9 99 yX9_isOutside, .static yX9_isOutside, .initialized RX9, .code yX9_isOutside cX9_isOutside 3 (some .boolean)] ++ wsX90 ++ wsX80)
def wsX9_peak_r1 : List Cond := [Cond.constantLong RX9 158 (-1), Cond.constantLong RX9 163 (-2), Cond.methodLink RX9 205 yX9_isNoGauge, Cond.static yX9_isNoGauge, Cond.initialized RX9, Cond.code yX9_isNoGauge cX9_isNoGauge 1 (some .boolean), Cond.methodLink RX9 99 yX9_isOutside, Cond.static yX9_isOutside, Cond.code yX9_isOutside cX9_isOutside 3 (some .boolean), Cond.methodLink RX9 212 yX9_lacksGauge, Cond.instanceMethod yX9_lacksGauge, Cond.selects RX9 yX9_lacksGauge yX9_lacksGauge, Cond.code yX9_lacksGauge cX9_lacksGauge 2 (some .boolean), Cond.fieldLink RX9 29 "RiverModel" "isBuilt" "Z", Cond.fieldLink RX9 74 "RiverModel" "gauges" "LRiverModel$Gauges;", Cond.methodLink RX9 346 yX1_isSet, Cond.instanceMethod yX1_isSet, Cond.selects RX1 yX1_isSet yX1_isSet, Cond.initialized RX1, Cond.code yX1_isSet cX1_isSet 2 (some .boolean), Cond.fieldLink RX1 9 "RiverModel$Gauges" "whats" "[I", Cond.methodLink RX9 265 yX9_isBeyond, Cond.instanceMethod yX9_isBeyond, Cond.selects RX9 yX9_isBeyond yX9_isBeyond]
def wsX9_peak_r2 : List Cond := [Cond.code yX9_isBeyond cX9_isBeyond 2 (some .boolean), Cond.fieldLink RX9 53 "RiverModel" "now" "LRiverModel$Course;", Cond.fieldLink RX9 144 "RiverModel$Course" "hours" "I", Cond.methodLink RX9 275 yX9_peakAhead, Cond.instanceMethod yX9_peakAhead, Cond.selects RX9 yX9_peakAhead yX9_peakAhead, Cond.code yX9_peakAhead cX9_peakAhead 9 (some .long), Cond.fieldLink RX9 57 "RiverModel" "trial" "LRiverModel$Course;", Cond.fieldLink RX9 39 "RiverModel" "skyA" "LRiverModel$Sky;", Cond.fieldLink RX9 88 "RiverModel" "worlds" "LRiverModel$Worlds;", Cond.fieldLink RX9 19 "RiverModel" "model" "LRiverModel$Model;", Cond.methodLink RX9 374 Lib.MathLoose.max_long.x, Cond.static Lib.MathLoose.max_long.x, Cond.initialized "java/lang/Math", Cond.code Lib.MathLoose.max_long.x Lib.MathLoose.max_long.code 4 (some .long), Cond.methodLink RX9 330 yX0_copyFrom, Cond.instanceMethod yX0_copyFrom, Cond.selects RX0 yX0_copyFrom yX0_copyFrom, Cond.initialized RX0, Cond.code yX0_copyFrom cX0_copyFrom 2 none, Cond.fieldLink RX0 9 "RiverModel$Course" "held" "[J", Cond.methodLink RX0 54 arraycopyName, Cond.native arraycopyName, Cond.static arraycopyName]
def wsX9_peak_r3 : List Cond := [Cond.initialized "java/lang/System", Cond.fieldLink RX0 15 "RiverModel$Course" "moved" "[J", Cond.fieldLink RX0 18 "RiverModel$Course" "openings" "[I", Cond.fieldLink RX0 22 "RiverModel$Course" "due" "[J", Cond.fieldLink RX0 25 "RiverModel$Course" "rained" "J", Cond.fieldLink RX0 29 "RiverModel$Course" "air" "J", Cond.fieldLink RX0 32 "RiverModel$Course" "sea" "J", Cond.fieldLink RX0 35 "RiverModel$Course" "hours" "I", Cond.methodLink RX9 357 yX6_rainIn, Cond.instanceMethod yX6_rainIn, Cond.selects RX6 yX6_rainIn yX6_rainIn, Cond.initialized RX6, Cond.code yX6_rainIn cX6_rainIn 2 (some .int), Cond.fieldLink RX6 9 "RiverModel$Sky" "rains" "[I", Cond.methodLink RX9 371 yX8_rainAhead, Cond.instanceMethod yX8_rainAhead, Cond.selects RX8 yX8_rainAhead yX8_rainAhead, Cond.initialized RX8, Cond.code yX8_rainAhead cX8_rainAhead 3 (some .int), Cond.fieldLink RX8 18 "RiverModel$Worlds" "rains" "[I", Cond.static yX9_isNoWorld, Cond.code yX9_isNoWorld cX9_isNoWorld 1 (some .boolean), Cond.methodLink RX9 360 yX6_tempIn, Cond.instanceMethod yX6_tempIn]
def wsX9_peak_r4 : List Cond := [Cond.selects RX6 yX6_tempIn yX6_tempIn, Cond.code yX6_tempIn cX6_tempIn 2 (some .int), Cond.fieldLink RX6 15 "RiverModel$Sky" "temps" "[I", Cond.methodLink RX9 363 yX0_goHour, Cond.instanceMethod yX0_goHour, Cond.selects RX0 yX0_goHour yX0_goHour, Cond.code yX0_goHour cX0_goHour 7 none, Cond.fieldLink RX0 75 "RiverModel$Model" "many" "I", Cond.methodLink RX0 72 yX0_bringDue, Cond.instanceMethod yX0_bringDue, Cond.selects RX0 yX0_bringDue yX0_bringDue, Cond.code yX0_bringDue cX0_bringDue 3 none, Cond.methodLink RX0 78 yX0_amountOf, Cond.instanceMethod yX0_amountOf, Cond.selects RX0 yX0_amountOf yX0_amountOf, Cond.code yX0_amountOf cX0_amountOf 11 (some .long), Cond.methodLink RX0 101 Lib.MathLoose.max_long.x, Cond.methodLink RX0 107 Lib.MathLoose.min_long.x, Cond.static Lib.MathLoose.min_long.x, Cond.code Lib.MathLoose.min_long.x Lib.MathLoose.min_long.code 4 (some .long), Cond.constantLong RX0 117 (100), Cond.constantLong RX0 119 (10), Cond.methodLink RX0 86 yX4_cell, Cond.instanceMethod yX4_cell]
def wsX9_peak_r5 : List Cond := [Cond.selects RX4 yX4_cell yX4_cell, Cond.initialized RX4, Cond.code yX4_cell cX4_cell 3 (some .int), Cond.fieldLink RX4 9 "RiverModel$Model" "cells" "[I", Cond.static yX9_isNoStore, Cond.code yX9_isNoStore cX9_isNoStore 1 (some .boolean), Cond.methodLink RX0 94 yX0_leakOf, Cond.static yX0_leakOf, Cond.code yX0_leakOf cX0_leakOf 8 (some .long), Cond.methodLink RX0 98 yX4_capacityOf, Cond.instanceMethod yX4_capacityOf, Cond.selects RX4 yX4_capacityOf yX4_capacityOf, Cond.code yX4_capacityOf cX4_capacityOf 2 (some .int), Cond.fieldLink RX4 15 "RiverModel$Model" "storeItems" "[I", Cond.methodLink RX4 66 yX4_hasStore, Cond.instanceMethod yX4_hasStore, Cond.selects RX4 yX4_hasStore yX4_hasStore, Cond.code yX4_hasStore cX4_hasStore 2 (some .boolean), Cond.methodLink RX4 73 yX4_cell, Cond.methodLink RX0 110 yX4_gateOf, Cond.instanceMethod yX4_gateOf, Cond.selects RX4 yX4_gateOf yX4_gateOf, Cond.code yX4_gateOf cX4_gateOf 3 (some .int), Cond.fieldLink RX4 28 "RiverModel$Model" "gates" "I"]
def wsX9_peak_r6 : List Cond := [Cond.fieldLink RX4 18 "RiverModel$Model" "gateItems" "[I", Cond.methodLink RX0 113 yX0_openingOf, Cond.instanceMethod yX0_openingOf, Cond.selects RX0 yX0_openingOf yX0_openingOf, Cond.code yX0_openingOf cX0_openingOf 2 (some .long), Cond.static yX9_isNoGate, Cond.code yX9_isNoGate cX9_isNoGate 1 (some .boolean), Cond.methodLink RX0 82 yX0_move, Cond.instanceMethod yX0_move, Cond.selects RX0 yX0_move yX0_move, Cond.code yX0_move cX0_move 8 none, Cond.methodLink RX0 124 yX0_send, Cond.instanceMethod yX0_send, Cond.selects RX0 yX0_send yX0_send, Cond.code yX0_send cX0_send 5 none, Cond.methodLink RX9 215 yX1_reading, Cond.instanceMethod yX1_reading, Cond.selects RX1 yX1_reading yX1_reading, Cond.code yX1_reading cX1_reading 4 (some .long), Cond.fieldLink RX1 15 "RiverModel$Gauges" "places" "[I", Cond.fieldLink RX1 41 "RiverModel$Course" "moved" "[J", Cond.fieldLink RX1 50 "RiverModel$Course" "held" "[J", Cond.methodLink RX1 35 yX1_isSet, Cond.static yX9_isNoItem]
def wsX9_peak_r7 : List Cond := [Cond.code yX9_isNoItem cX9_isNoItem 1 (some .boolean)]
def wsX9_peak : List Cond := .code yX9_peak cX9_peak 4 (some .long) :: ((wsX9_peak_r1 ++ (wsX9_peak_r2 ++ (wsX9_peak_r3 ++ (wsX9_peak_r4 ++ (wsX9_peak_r5 ++ (wsX9_peak_r6 ++ wsX9_peak_r7)))))) ++ wsX90 ++ wsX10 ++ wsX00 ++ wsX60 ++ wsX80 ++ wsX40)
def wsX9_best_r1 : List Cond := [Cond.constantLong RX9 158 (-1), Cond.constantLong RX9 163 (-2), Cond.fieldLink RX9 95 "RiverModel" "search" "LRiverModel$Search;", Cond.fieldLink RX9 19 "RiverModel" "model" "LRiverModel$Model;", Cond.fieldLink RX9 39 "RiverModel" "skyA" "LRiverModel$Sky;", Cond.fieldLink RX9 74 "RiverModel" "gauges" "LRiverModel$Gauges;", Cond.fieldLink RX9 53 "RiverModel" "now" "LRiverModel$Course;", Cond.fieldLink RX9 294 "RiverModel$Search" "isFound" "Z", Cond.constantLong RX9 297 (-4), Cond.fieldLink RX9 299 "RiverModel$Search" "leastPeak" "J", Cond.fieldLink RX9 302 "RiverModel$Search" "found" "[I", Cond.methodLink RX9 176 yX9_isNoGate, Cond.static yX9_isNoGate, Cond.initialized RX9, Cond.code yX9_isNoGate cX9_isNoGate 1 (some .boolean), Cond.methodLink RX9 99 yX9_isOutside, Cond.static yX9_isOutside, Cond.code yX9_isOutside cX9_isOutside 3 (some .boolean), Cond.methodLink RX9 205 yX9_isNoGauge, Cond.static yX9_isNoGauge, Cond.code yX9_isNoGauge cX9_isNoGauge 1 (some .boolean), Cond.methodLink RX9 155 yX9_isNoStore, Cond.static yX9_isNoStore, Cond.code yX9_isNoStore cX9_isNoStore 1 (some .boolean)]
def wsX9_best_r2 : List Cond := [Cond.methodLink RX9 179 yX9_lacksGate, Cond.instanceMethod yX9_lacksGate, Cond.selects RX9 yX9_lacksGate yX9_lacksGate, Cond.code yX9_lacksGate cX9_lacksGate 2 (some .boolean), Cond.fieldLink RX9 29 "RiverModel" "isBuilt" "Z", Cond.fieldLink RX9 333 "RiverModel$Model" "gates" "I", Cond.methodLink RX9 212 yX9_lacksGauge, Cond.instanceMethod yX9_lacksGauge, Cond.selects RX9 yX9_lacksGauge yX9_lacksGauge, Cond.code yX9_lacksGauge cX9_lacksGauge 2 (some .boolean), Cond.methodLink RX9 346 yX1_isSet, Cond.instanceMethod yX1_isSet, Cond.selects RX1 yX1_isSet yX1_isSet, Cond.initialized RX1, Cond.code yX1_isSet cX1_isSet 2 (some .boolean), Cond.fieldLink RX1 9 "RiverModel$Gauges" "whats" "[I", Cond.methodLink RX9 160 yX9_lacksStore, Cond.instanceMethod yX9_lacksStore, Cond.selects RX9 yX9_lacksStore yX9_lacksStore, Cond.code yX9_lacksStore cX9_lacksStore 2 (some .boolean), Cond.methodLink RX9 343 yX4_hasStore, Cond.instanceMethod yX4_hasStore, Cond.selects RX4 yX4_hasStore yX4_hasStore, Cond.initialized RX4]
def wsX9_best_r3 : List Cond := [Cond.code yX4_hasStore cX4_hasStore 2 (some .boolean), Cond.fieldLink RX4 15 "RiverModel$Model" "storeItems" "[I", Cond.methodLink RX9 265 yX9_isBeyond, Cond.instanceMethod yX9_isBeyond, Cond.selects RX9 yX9_isBeyond yX9_isBeyond, Cond.code yX9_isBeyond cX9_isBeyond 2 (some .boolean), Cond.fieldLink RX9 144 "RiverModel$Course" "hours" "I", Cond.methodLink RX9 286 yX5_prepare, Cond.instanceMethod yX5_prepare, Cond.selects RX5 yX5_prepare yX5_prepare, Cond.initialized RX5, Cond.code yX5_prepare cX5_prepare 7 none, Cond.fieldLink RX5 32 "RiverModel$Search" "gate" "I", Cond.fieldLink RX5 36 "RiverModel$Search" "blockHours" "I", Cond.fieldLink RX5 39 "RiverModel$Search" "gauge" "I", Cond.fieldLink RX5 42 "RiverModel$Search" "store" "I", Cond.fieldLink RX5 45 "RiverModel$Search" "limit" "J", Cond.fieldLink RX5 24 "RiverModel$Search" "isFound" "Z", Cond.instanceMethod yX5_tryBlock, Cond.selects RX5 yX5_tryBlock yX5_tryBlock, Cond.code yX5_tryBlock cX5_tryBlock 12 none, Cond.fieldLink RX5 11 "RiverModel$Search" "blockEnds" "[LRiverModel$Course;", Cond.fieldLink RX5 17 "RiverModel$Search" "tried" "[I", Cond.constantLong RX5 61 (-1)]
def wsX9_best_r4 : List Cond := [Cond.fieldLink RX5 28 "RiverModel$Search" "leastPeak" "J", Cond.methodLink RX5 53 yX0_copyFrom, Cond.instanceMethod yX0_copyFrom, Cond.selects RX0 yX0_copyFrom yX0_copyFrom, Cond.initialized RX0, Cond.code yX0_copyFrom cX0_copyFrom 2 none, Cond.fieldLink RX0 9 "RiverModel$Course" "held" "[J", Cond.methodLink RX0 54 arraycopyName, Cond.native arraycopyName, Cond.static arraycopyName, Cond.initialized "java/lang/System", Cond.fieldLink RX0 15 "RiverModel$Course" "moved" "[J", Cond.fieldLink RX0 18 "RiverModel$Course" "openings" "[I", Cond.fieldLink RX0 22 "RiverModel$Course" "due" "[J", Cond.fieldLink RX0 25 "RiverModel$Course" "rained" "J", Cond.fieldLink RX0 29 "RiverModel$Course" "air" "J", Cond.fieldLink RX0 32 "RiverModel$Course" "sea" "J", Cond.fieldLink RX0 35 "RiverModel$Course" "hours" "I", Cond.methodLink RX5 57 yX5_peakOfBlock, Cond.instanceMethod yX5_peakOfBlock, Cond.selects RX5 yX5_peakOfBlock yX5_peakOfBlock, Cond.code yX5_peakOfBlock cX5_peakOfBlock 11 (some .long), Cond.fieldLink RX5 78 "RiverModel$Course" "openings" "[I", Cond.fieldLink RX5 81 "RiverModel$Course" "hours" "I"]
def wsX9_best_r5 : List Cond := [Cond.fieldLink RX5 97 "RiverModel$Course" "held" "[J", Cond.methodLink RX5 107 Lib.MathLoose.max_long.x, Cond.static Lib.MathLoose.max_long.x, Cond.initialized "java/lang/Math", Cond.code Lib.MathLoose.max_long.x Lib.MathLoose.max_long.code 4 (some .long), Cond.methodLink RX5 84 yX6_rainIn, Cond.instanceMethod yX6_rainIn, Cond.selects RX6 yX6_rainIn yX6_rainIn, Cond.initialized RX6, Cond.code yX6_rainIn cX6_rainIn 2 (some .int), Cond.fieldLink RX6 9 "RiverModel$Sky" "rains" "[I", Cond.methodLink RX5 90 yX6_tempIn, Cond.instanceMethod yX6_tempIn, Cond.selects RX6 yX6_tempIn yX6_tempIn, Cond.code yX6_tempIn cX6_tempIn 2 (some .int), Cond.fieldLink RX6 15 "RiverModel$Sky" "temps" "[I", Cond.methodLink RX5 93 yX0_goHour, Cond.instanceMethod yX0_goHour, Cond.selects RX0 yX0_goHour yX0_goHour, Cond.code yX0_goHour cX0_goHour 7 none, Cond.fieldLink RX0 75 "RiverModel$Model" "many" "I", Cond.methodLink RX0 72 yX0_bringDue, Cond.instanceMethod yX0_bringDue, Cond.selects RX0 yX0_bringDue yX0_bringDue]
def wsX9_best_r6 : List Cond := [Cond.code yX0_bringDue cX0_bringDue 3 none, Cond.methodLink RX0 78 yX0_amountOf, Cond.instanceMethod yX0_amountOf, Cond.selects RX0 yX0_amountOf yX0_amountOf, Cond.code yX0_amountOf cX0_amountOf 11 (some .long), Cond.methodLink RX0 101 Lib.MathLoose.max_long.x, Cond.methodLink RX0 107 Lib.MathLoose.min_long.x, Cond.static Lib.MathLoose.min_long.x, Cond.code Lib.MathLoose.min_long.x Lib.MathLoose.min_long.code 4 (some .long), Cond.constantLong RX0 117 (100), Cond.constantLong RX0 119 (10), Cond.methodLink RX0 86 yX4_cell, Cond.instanceMethod yX4_cell, Cond.selects RX4 yX4_cell yX4_cell, Cond.code yX4_cell cX4_cell 3 (some .int), Cond.fieldLink RX4 9 "RiverModel$Model" "cells" "[I", Cond.methodLink RX0 94 yX0_leakOf, Cond.static yX0_leakOf, Cond.code yX0_leakOf cX0_leakOf 8 (some .long), Cond.methodLink RX0 98 yX4_capacityOf, Cond.instanceMethod yX4_capacityOf, Cond.selects RX4 yX4_capacityOf yX4_capacityOf, Cond.code yX4_capacityOf cX4_capacityOf 2 (some .int), Cond.methodLink RX4 66 yX4_hasStore]
def wsX9_best_r7 : List Cond := [Cond.methodLink RX4 73 yX4_cell, Cond.methodLink RX0 110 yX4_gateOf, Cond.instanceMethod yX4_gateOf, Cond.selects RX4 yX4_gateOf yX4_gateOf, Cond.code yX4_gateOf cX4_gateOf 3 (some .int), Cond.fieldLink RX4 28 "RiverModel$Model" "gates" "I", Cond.fieldLink RX4 18 "RiverModel$Model" "gateItems" "[I", Cond.methodLink RX0 113 yX0_openingOf, Cond.instanceMethod yX0_openingOf, Cond.selects RX0 yX0_openingOf yX0_openingOf, Cond.code yX0_openingOf cX0_openingOf 2 (some .long), Cond.methodLink RX0 82 yX0_move, Cond.instanceMethod yX0_move, Cond.selects RX0 yX0_move yX0_move, Cond.code yX0_move cX0_move 8 none, Cond.methodLink RX0 124 yX0_send, Cond.instanceMethod yX0_send, Cond.selects RX0 yX0_send yX0_send, Cond.code yX0_send cX0_send 5 none, Cond.methodLink RX5 101 yX1_reading, Cond.instanceMethod yX1_reading, Cond.selects RX1 yX1_reading yX1_reading, Cond.code yX1_reading cX1_reading 4 (some .long), Cond.fieldLink RX1 15 "RiverModel$Gauges" "places" "[I"]
def wsX9_best_r8 : List Cond := [Cond.fieldLink RX1 41 "RiverModel$Course" "moved" "[J", Cond.fieldLink RX1 50 "RiverModel$Course" "held" "[J", Cond.methodLink RX1 35 yX1_isSet, Cond.static yX9_isNoItem, Cond.code yX9_isNoItem cX9_isNoItem 1 (some .boolean), Cond.methodLink RX5 63 yX5_takeTried, Cond.instanceMethod yX5_takeTried, Cond.selects RX5 yX5_takeTried yX5_takeTried, Cond.code yX5_takeTried cX5_takeTried 3 none, Cond.fieldLink RX5 21 "RiverModel$Search" "found" "[I", Cond.methodLink RX5 113 arraycopyName, Cond.methodLink RX5 67 yX5_tryBlock]
def wsX9_best : List Cond := .code yX9_best cX9_best 8 (some .long) :: ((wsX9_best_r1 ++ (wsX9_best_r2 ++ (wsX9_best_r3 ++ (wsX9_best_r4 ++ (wsX9_best_r5 ++ (wsX9_best_r6 ++ (wsX9_best_r7 ++ wsX9_best_r8))))))) ++ wsX90 ++ wsX50 ++ wsX40 ++ wsX10 ++ wsX00 ++ wsX60)
def wsX9_swap_r1 : List Cond := [Cond.fieldLink RX9 10 "RiverModel" "text" "LRiverModel$Text;", Cond.fieldLink RX9 19 "RiverModel" "model" "LRiverModel$Model;", Cond.fieldLink RX9 309 "RiverModel$Text" "row" "[I", Cond.fieldLink RX9 26 "RiverModel" "other" "LRiverModel$Model;", Cond.fieldLink RX9 33 "RiverModel" "isOtherLaid" "Z", Cond.methodLink RX9 127 yX9_isNoItem, Cond.static yX9_isNoItem, Cond.initialized RX9, Cond.code yX9_isNoItem cX9_isNoItem 1 (some .boolean), Cond.methodLink RX9 131 yX9_lacksItem, Cond.instanceMethod yX9_lacksItem, Cond.selects RX9 yX9_lacksItem yX9_lacksItem, Cond.code yX9_lacksItem cX9_lacksItem 2 (some .boolean), Cond.fieldLink RX9 29 "RiverModel" "isBuilt" "Z", Cond.fieldLink RX9 124 "RiverModel$Model" "many" "I", Cond.methodLink RX9 305 yX7_readAlone, Cond.instanceMethod yX7_readAlone, Cond.selects RX7 yX7_readAlone yX7_readAlone, Cond.initialized RX7, Cond.code yX7_readAlone cX7_readAlone 1 (some .boolean), Cond.fieldLink RX7 22 "RiverModel$Text" "at" "I", Cond.fieldLink RX7 18 "RiverModel$Text" "length" "I", Cond.methodLink RX7 30 yX7_readItem, Cond.instanceMethod yX7_readItem]
def wsX9_swap_r2 : List Cond := [Cond.selects RX7 yX7_readItem yX7_readItem, Cond.code yX7_readItem cX7_readItem 5 (some .boolean), Cond.fieldLink RX7 15 "RiverModel$Text" "row" "[I", Cond.methodLink RX7 42 yJ7_fill_53178, Cond.static yJ7_fill_53178, Cond.initialized RJ7, Cond.code yJ7_fill_53178 cJ7_fill_53178 4 none, Cond.methodLink RX7 48 yX7_nextByte, Cond.instanceMethod yX7_nextByte, Cond.selects RX7 yX7_nextByte yX7_nextByte, Cond.code yX7_nextByte cX7_nextByte 1 (some .int), Cond.fieldLink RX7 9 "RiverModel$Text" "bytes" "[I", Cond.methodLink RX7 52 yX2_namesOf, Cond.static yX2_namesOf, Cond.initialized RX2, Cond.code yX2_namesOf cX2_namesOf 1 (some .int), Cond.methodLink RX7 58 yX7_readName, Cond.instanceMethod yX7_readName, Cond.selects RX7 yX7_readName yX7_readName, Cond.code yX7_readName cX7_readName 3 (some .boolean), Cond.static yX9_isNoStore, Cond.code yX9_isNoStore cX9_isNoStore 1 (some .boolean), Cond.methodLink RX7 62 yX2_numbersOf, Cond.static yX2_numbersOf]
def wsX9_swap_r3 : List Cond := [Cond.code yX2_numbersOf cX2_numbersOf 1 (some .int), Cond.methodLink RX7 65 yX7_readNumber, Cond.instanceMethod yX7_readNumber, Cond.selects RX7 yX7_readNumber yX7_readNumber, Cond.code yX7_readNumber cX7_readNumber 4 (some .boolean), Cond.methodLink RX7 71 yX7_isAtFigure, Cond.instanceMethod yX7_isAtFigure, Cond.selects RX7 yX7_isAtFigure yX7_isAtFigure, Cond.code yX7_isAtFigure cX7_isAtFigure 1 (some .boolean), Cond.static yX9_isOutside, Cond.code yX9_isOutside cX9_isOutside 3 (some .boolean), Cond.methodLink RX9 312 yX4_mayReplace, Cond.instanceMethod yX4_mayReplace, Cond.selects RX4 yX4_mayReplace yX4_mayReplace, Cond.initialized RX4, Cond.code yX4_mayReplace cX4_mayReplace 4 (some .boolean), Cond.methodLink RX4 73 yX4_cell, Cond.instanceMethod yX4_cell, Cond.selects RX4 yX4_cell yX4_cell, Cond.code yX4_cell cX4_cell 3 (some .int), Cond.fieldLink RX4 9 "RiverModel$Model" "cells" "[I", Cond.methodLink RX4 62 yX4_areNumbersAsTold, Cond.static yX4_areNumbersAsTold, Cond.code yX4_areNumbersAsTold cX4_areNumbersAsTold 1 (some .boolean)]
def wsX9_swap_r4 : List Cond := [Cond.methodLink RX4 77 yX2_areNumbersAsTold, Cond.static yX2_areNumbersAsTold, Cond.code yX2_areNumbersAsTold cX2_areNumbersAsTold 4 (some .boolean), Cond.constant RX2 9 (1000000), Cond.methodLink RX2 10 yX2_isUpTo, Cond.static yX2_isUpTo, Cond.code yX2_isUpTo cX2_isUpTo 2 (some .boolean), Cond.methodLink RX4 69 yX4_areNamesAhead, Cond.instanceMethod yX4_areNamesAhead, Cond.selects RX4 yX4_areNamesAhead yX4_areNamesAhead, Cond.code yX4_areNamesAhead cX4_areNamesAhead 5 (some .boolean), Cond.methodLink RX4 82 yX4_isStoreAhead, Cond.instanceMethod yX4_isStoreAhead, Cond.selects RX4 yX4_isStoreAhead yX4_isStoreAhead, Cond.code yX4_isStoreAhead cX4_isStoreAhead 3 (some .boolean), Cond.fieldLink RX4 15 "RiverModel$Model" "storeItems" "[I", Cond.methodLink RX4 66 yX4_hasStore, Cond.instanceMethod yX4_hasStore, Cond.selects RX4 yX4_hasStore yX4_hasStore, Cond.code yX4_hasStore cX4_hasStore 2 (some .boolean), Cond.methodLink RX9 316 yX4_copyFrom, Cond.instanceMethod yX4_copyFrom, Cond.selects RX4 yX4_copyFrom yX4_copyFrom, Cond.code yX4_copyFrom cX4_copyFrom 2 none]
def wsX9_swap_r5 : List Cond := [Cond.methodLink RX4 37 arraycopyName, Cond.native arraycopyName, Cond.static arraycopyName, Cond.initialized "java/lang/System", Cond.fieldLink RX4 18 "RiverModel$Model" "gateItems" "[I", Cond.fieldLink RX4 21 "RiverModel$Model" "many" "I", Cond.fieldLink RX4 25 "RiverModel$Model" "stores" "I", Cond.fieldLink RX4 28 "RiverModel$Model" "gates" "I", Cond.methodLink RX9 319 yX4_put, Cond.instanceMethod yX4_put, Cond.selects RX4 yX4_put yX4_put, Cond.code yX4_put cX4_put 4 none, Cond.methodLink RX4 51 yX4_putCell, Cond.instanceMethod yX4_putCell, Cond.selects RX4 yX4_putCell yX4_putCell, Cond.code yX4_putCell cX4_putCell 4 none]
def wsX9_swap : List Cond := .code yX9_swap cX9_swap 2 (some .int) :: ((wsX9_swap_r1 ++ (wsX9_swap_r2 ++ (wsX9_swap_r3 ++ (wsX9_swap_r4 ++ wsX9_swap_r5)))) ++ wsX90 ++ wsX70 ++ wsX40)
def wsX9_swapped_r1 : List Cond := [Cond.constantLong RX9 158 (-1), Cond.fieldLink RX9 33 "RiverModel" "isOtherLaid" "Z", Cond.constantLong RX9 163 (-2), Cond.fieldLink RX9 57 "RiverModel" "trial" "LRiverModel$Course;", Cond.fieldLink RX9 19 "RiverModel" "model" "LRiverModel$Model;", Cond.fieldLink RX9 60 "RiverModel" "second" "LRiverModel$Course;", Cond.fieldLink RX9 26 "RiverModel" "other" "LRiverModel$Model;", Cond.fieldLink RX9 39 "RiverModel" "skyA" "LRiverModel$Sky;", Cond.fieldLink RX9 74 "RiverModel" "gauges" "LRiverModel$Gauges;", Cond.constantLong RX9 297 (-4), Cond.methodLink RX9 205 yX9_isNoGauge, Cond.static yX9_isNoGauge, Cond.initialized RX9, Cond.code yX9_isNoGauge cX9_isNoGauge 1 (some .boolean), Cond.methodLink RX9 99 yX9_isOutside, Cond.static yX9_isOutside, Cond.code yX9_isOutside cX9_isOutside 3 (some .boolean), Cond.methodLink RX9 212 yX9_lacksGauge, Cond.instanceMethod yX9_lacksGauge, Cond.selects RX9 yX9_lacksGauge yX9_lacksGauge, Cond.code yX9_lacksGauge cX9_lacksGauge 2 (some .boolean), Cond.fieldLink RX9 29 "RiverModel" "isBuilt" "Z", Cond.methodLink RX9 346 yX1_isSet, Cond.instanceMethod yX1_isSet]
def wsX9_swapped_r2 : List Cond := [Cond.selects RX1 yX1_isSet yX1_isSet, Cond.initialized RX1, Cond.code yX1_isSet cX1_isSet 2 (some .boolean), Cond.fieldLink RX1 9 "RiverModel$Gauges" "whats" "[I", Cond.methodLink RX9 147 yX0_begin, Cond.instanceMethod yX0_begin, Cond.selects RX0 yX0_begin yX0_begin, Cond.initialized RX0, Cond.code yX0_begin cX0_begin 3 none, Cond.fieldLink RX0 9 "RiverModel$Course" "held" "[J", Cond.fieldLink RX0 15 "RiverModel$Course" "moved" "[J", Cond.fieldLink RX0 18 "RiverModel$Course" "openings" "[I", Cond.fieldLink RX0 22 "RiverModel$Course" "due" "[J", Cond.fieldLink RX0 25 "RiverModel$Course" "rained" "J", Cond.fieldLink RX0 29 "RiverModel$Course" "air" "J", Cond.fieldLink RX0 32 "RiverModel$Course" "sea" "J", Cond.fieldLink RX0 35 "RiverModel$Course" "hours" "I", Cond.methodLink RX0 39 yX4_startOf, Cond.instanceMethod yX4_startOf, Cond.selects RX4 yX4_startOf yX4_startOf, Cond.initialized RX4, Cond.code yX4_startOf cX4_startOf 2 (some .int), Cond.fieldLink RX4 15 "RiverModel$Model" "storeItems" "[I", Cond.methodLink RX4 66 yX4_hasStore]
def wsX9_swapped_r3 : List Cond := [Cond.instanceMethod yX4_hasStore, Cond.selects RX4 yX4_hasStore yX4_hasStore, Cond.code yX4_hasStore cX4_hasStore 2 (some .boolean), Cond.methodLink RX4 73 yX4_cell, Cond.instanceMethod yX4_cell, Cond.selects RX4 yX4_cell yX4_cell, Cond.code yX4_cell cX4_cell 3 (some .int), Cond.fieldLink RX4 9 "RiverModel$Model" "cells" "[I", Cond.methodLink RX0 45 yJ7_fill_d0a16, Cond.static yJ7_fill_d0a16, Cond.initialized RJ7, Cond.code yJ7_fill_d0a16 cJ7_fill_d0a16 5 none, Cond.methodLink RX0 51 yJ7_fill_53178, Cond.static yJ7_fill_53178, Cond.code yJ7_fill_53178 cJ7_fill_53178 4 none, Cond.methodLink RX9 151 yX0_goHourBy, Cond.instanceMethod yX0_goHourBy, Cond.selects RX0 yX0_goHourBy yX0_goHourBy, Cond.code yX0_goHourBy cX0_goHourBy 3 none, Cond.methodLink RX0 60 yX6_rainIn, Cond.instanceMethod yX6_rainIn, Cond.selects RX6 yX6_rainIn yX6_rainIn, Cond.initialized RX6, Cond.code yX6_rainIn cX6_rainIn 2 (some .int)]
def wsX9_swapped_r4 : List Cond := [Cond.fieldLink RX6 9 "RiverModel$Sky" "rains" "[I", Cond.methodLink RX0 65 yX6_tempIn, Cond.instanceMethod yX6_tempIn, Cond.selects RX6 yX6_tempIn yX6_tempIn, Cond.code yX6_tempIn cX6_tempIn 2 (some .int), Cond.fieldLink RX6 15 "RiverModel$Sky" "temps" "[I", Cond.methodLink RX0 68 yX0_goHour, Cond.instanceMethod yX0_goHour, Cond.selects RX0 yX0_goHour yX0_goHour, Cond.code yX0_goHour cX0_goHour 7 none, Cond.fieldLink RX0 75 "RiverModel$Model" "many" "I", Cond.methodLink RX0 72 yX0_bringDue, Cond.instanceMethod yX0_bringDue, Cond.selects RX0 yX0_bringDue yX0_bringDue, Cond.code yX0_bringDue cX0_bringDue 3 none, Cond.methodLink RX0 78 yX0_amountOf, Cond.instanceMethod yX0_amountOf, Cond.selects RX0 yX0_amountOf yX0_amountOf, Cond.code yX0_amountOf cX0_amountOf 11 (some .long), Cond.methodLink RX0 101 Lib.MathLoose.max_long.x, Cond.static Lib.MathLoose.max_long.x, Cond.initialized "java/lang/Math", Cond.code Lib.MathLoose.max_long.x Lib.MathLoose.max_long.code 4 (some .long), Cond.methodLink RX0 107 Lib.MathLoose.min_long.x]
def wsX9_swapped_r5 : List Cond := [Cond.static Lib.MathLoose.min_long.x, Cond.code Lib.MathLoose.min_long.x Lib.MathLoose.min_long.code 4 (some .long), Cond.constantLong RX0 117 (100), Cond.constantLong RX0 119 (10), Cond.methodLink RX0 86 yX4_cell, Cond.static yX9_isNoStore, Cond.code yX9_isNoStore cX9_isNoStore 1 (some .boolean), Cond.methodLink RX0 94 yX0_leakOf, Cond.static yX0_leakOf, Cond.code yX0_leakOf cX0_leakOf 8 (some .long), Cond.methodLink RX0 98 yX4_capacityOf, Cond.instanceMethod yX4_capacityOf, Cond.selects RX4 yX4_capacityOf yX4_capacityOf, Cond.code yX4_capacityOf cX4_capacityOf 2 (some .int), Cond.methodLink RX0 110 yX4_gateOf, Cond.instanceMethod yX4_gateOf, Cond.selects RX4 yX4_gateOf yX4_gateOf, Cond.code yX4_gateOf cX4_gateOf 3 (some .int), Cond.fieldLink RX4 28 "RiverModel$Model" "gates" "I", Cond.fieldLink RX4 18 "RiverModel$Model" "gateItems" "[I", Cond.methodLink RX0 113 yX0_openingOf, Cond.instanceMethod yX0_openingOf, Cond.selects RX0 yX0_openingOf yX0_openingOf, Cond.code yX0_openingOf cX0_openingOf 2 (some .long)]
def wsX9_swapped_r6 : List Cond := [Cond.static yX9_isNoGate, Cond.code yX9_isNoGate cX9_isNoGate 1 (some .boolean), Cond.methodLink RX0 82 yX0_move, Cond.instanceMethod yX0_move, Cond.selects RX0 yX0_move yX0_move, Cond.code yX0_move cX0_move 8 none, Cond.methodLink RX0 124 yX0_send, Cond.instanceMethod yX0_send, Cond.selects RX0 yX0_send yX0_send, Cond.code yX0_send cX0_send 5 none, Cond.methodLink RX9 215 yX1_reading, Cond.instanceMethod yX1_reading, Cond.selects RX1 yX1_reading yX1_reading, Cond.code yX1_reading cX1_reading 4 (some .long), Cond.fieldLink RX1 15 "RiverModel$Gauges" "places" "[I", Cond.fieldLink RX1 41 "RiverModel$Course" "moved" "[J", Cond.fieldLink RX1 50 "RiverModel$Course" "held" "[J", Cond.methodLink RX1 35 yX1_isSet, Cond.static yX9_isNoItem, Cond.code yX9_isNoItem cX9_isNoItem 1 (some .boolean)]
def wsX9_swapped : List Cond := .code yX9_swapped cX9_swapped 9 (some .long) :: ((wsX9_swapped_r1 ++ (wsX9_swapped_r2 ++ (wsX9_swapped_r3 ++ (wsX9_swapped_r4 ++ (wsX9_swapped_r5 ++ wsX9_swapped_r6))))) ++ wsX90 ++ wsX10 ++ wsX00 ++ wsX40 ++ wsX60)
def wsX9_laySwap_r1 : List Cond := [Cond.fieldLink RX9 33 "RiverModel" "isOtherLaid" "Z", Cond.fieldLink RX9 23 "RiverModel" "draft" "LRiverModel$Model;", Cond.fieldLink RX9 26 "RiverModel" "other" "LRiverModel$Model;", Cond.methodLink RX9 316 yX4_copyFrom, Cond.instanceMethod yX4_copyFrom, Cond.selects RX4 yX4_copyFrom yX4_copyFrom, Cond.initialized RX4, Cond.code yX4_copyFrom cX4_copyFrom 2 none, Cond.fieldLink RX4 9 "RiverModel$Model" "cells" "[I", Cond.methodLink RX4 37 arraycopyName, Cond.native arraycopyName, Cond.static arraycopyName, Cond.initialized "java/lang/System", Cond.fieldLink RX4 15 "RiverModel$Model" "storeItems" "[I", Cond.fieldLink RX4 18 "RiverModel$Model" "gateItems" "[I", Cond.fieldLink RX4 21 "RiverModel$Model" "many" "I", Cond.fieldLink RX4 25 "RiverModel$Model" "stores" "I", Cond.fieldLink RX4 28 "RiverModel$Model" "gates" "I", Cond.methodLink RX9 121 yX9_draftBecomesModel, Cond.instanceMethod yX9_draftBecomesModel, Cond.selects RX9 yX9_draftBecomesModel yX9_draftBecomesModel, Cond.initialized RX9, Cond.code yX9_draftBecomesModel cX9_draftBecomesModel 3 none, Cond.fieldLink RX9 19 "RiverModel" "model" "LRiverModel$Model;"]
def wsX9_laySwap_r2 : List Cond := [Cond.fieldLink RX9 29 "RiverModel" "isBuilt" "Z", Cond.fieldLink RX9 67 "RiverModel" "keptMany" "I", Cond.fieldLink RX9 53 "RiverModel" "now" "LRiverModel$Course;", Cond.fieldLink RX9 46 "RiverModel" "startsB" "[I", Cond.methodLink RX9 147 yX0_begin, Cond.instanceMethod yX0_begin, Cond.selects RX0 yX0_begin yX0_begin, Cond.initialized RX0, Cond.code yX0_begin cX0_begin 3 none, Cond.fieldLink RX0 9 "RiverModel$Course" "held" "[J", Cond.fieldLink RX0 15 "RiverModel$Course" "moved" "[J", Cond.fieldLink RX0 18 "RiverModel$Course" "openings" "[I", Cond.fieldLink RX0 22 "RiverModel$Course" "due" "[J", Cond.fieldLink RX0 25 "RiverModel$Course" "rained" "J", Cond.fieldLink RX0 29 "RiverModel$Course" "air" "J", Cond.fieldLink RX0 32 "RiverModel$Course" "sea" "J", Cond.fieldLink RX0 35 "RiverModel$Course" "hours" "I", Cond.methodLink RX0 39 yX4_startOf, Cond.instanceMethod yX4_startOf, Cond.selects RX4 yX4_startOf yX4_startOf, Cond.code yX4_startOf cX4_startOf 2 (some .int), Cond.methodLink RX4 66 yX4_hasStore, Cond.instanceMethod yX4_hasStore, Cond.selects RX4 yX4_hasStore yX4_hasStore]
def wsX9_laySwap_r3 : List Cond := [Cond.code yX4_hasStore cX4_hasStore 2 (some .boolean), Cond.methodLink RX4 73 yX4_cell, Cond.instanceMethod yX4_cell, Cond.selects RX4 yX4_cell yX4_cell, Cond.code yX4_cell cX4_cell 3 (some .int), Cond.methodLink RX0 45 yJ7_fill_d0a16, Cond.static yJ7_fill_d0a16, Cond.initialized RJ7, Cond.code yJ7_fill_d0a16 cJ7_fill_d0a16 5 none, Cond.methodLink RX0 51 yJ7_fill_53178, Cond.static yJ7_fill_53178, Cond.code yJ7_fill_53178 cJ7_fill_53178 4 none, Cond.methodLink RX9 347 yX4_startOf]
def wsX9_laySwap : List Cond := .code yX9_laySwap cX9_laySwap 1 (some .int) :: ((wsX9_laySwap_r1 ++ (wsX9_laySwap_r2 ++ wsX9_laySwap_r3)) ++ wsX90 ++ wsX40 ++ wsX00)
def wsX9_startB : List Cond := .code yX9_startB cX9_startB 4 (some .int) :: ([.constant RX9 231 (1000000), .fieldLink RX9 46 "RiverModel" "startsB" "[I", .methodLink RX9 155 yX9_isNoStore, .static yX9_isNoStore, .initialized RX9, .code yX9_isNoStore cX9_isNoStore 1 (some .boolean), .methodLink RX9 99 yX9_isOutside, .static yX9_isOutside, .code yX9_isOutside cX9_isOutside 3 (some .boolean), .methodLink RX9 160 yX9_lacksStore, .instanceMethod yX9_lacksStore, .selects RX9 yX9_lacksStore yX9_lacksStore, .code yX9_lacksStore cX9_lacksStore 2 (some .boolean), .fieldLink RX9 29 "RiverModel" "isBuilt" "Z", .fieldLink RX9 19 "RiverModel" "model" "LRiverModel$Model;", .methodLink RX9 343 yX4_hasStore, .instanceMethod yX4_hasStore, .selects RX4 yX4_hasStore yX4_hasStore, .initialized RX4, .code yX4_hasStore cX4_hasStore 2 (some .boolean), .fieldLink RX4 15 "RiverModel$Model" "storeItems" "[I"] ++ wsX90 ++ wsX40)
def wsX9_changedReading_r1 : List Cond := [Cond.fieldLink RX9 33 "RiverModel" "isOtherLaid" "Z", Cond.fieldLink RX9 26 "RiverModel" "other" "LRiverModel$Model;", Cond.fieldLink RX9 19 "RiverModel" "model" "LRiverModel$Model;", Cond.fieldLink RX9 43 "RiverModel" "skyB" "LRiverModel$Sky;", Cond.fieldLink RX9 39 "RiverModel" "skyA" "LRiverModel$Sky;", Cond.fieldLink RX9 57 "RiverModel" "trial" "LRiverModel$Course;", Cond.fieldLink RX9 46 "RiverModel" "startsB" "[I", Cond.fieldLink RX9 74 "RiverModel" "gauges" "LRiverModel$Gauges;", Cond.methodLink RX9 147 yX0_begin, Cond.instanceMethod yX0_begin, Cond.selects RX0 yX0_begin yX0_begin, Cond.initialized RX0, Cond.code yX0_begin cX0_begin 3 none, Cond.fieldLink RX0 9 "RiverModel$Course" "held" "[J", Cond.fieldLink RX0 15 "RiverModel$Course" "moved" "[J", Cond.fieldLink RX0 18 "RiverModel$Course" "openings" "[I", Cond.fieldLink RX0 22 "RiverModel$Course" "due" "[J", Cond.fieldLink RX0 25 "RiverModel$Course" "rained" "J", Cond.fieldLink RX0 29 "RiverModel$Course" "air" "J", Cond.fieldLink RX0 32 "RiverModel$Course" "sea" "J", Cond.fieldLink RX0 35 "RiverModel$Course" "hours" "I", Cond.methodLink RX0 39 yX4_startOf, Cond.instanceMethod yX4_startOf, Cond.selects RX4 yX4_startOf yX4_startOf]
def wsX9_changedReading_r2 : List Cond := [Cond.initialized RX4, Cond.code yX4_startOf cX4_startOf 2 (some .int), Cond.fieldLink RX4 15 "RiverModel$Model" "storeItems" "[I", Cond.methodLink RX4 66 yX4_hasStore, Cond.instanceMethod yX4_hasStore, Cond.selects RX4 yX4_hasStore yX4_hasStore, Cond.code yX4_hasStore cX4_hasStore 2 (some .boolean), Cond.methodLink RX4 73 yX4_cell, Cond.instanceMethod yX4_cell, Cond.selects RX4 yX4_cell yX4_cell, Cond.code yX4_cell cX4_cell 3 (some .int), Cond.fieldLink RX4 9 "RiverModel$Model" "cells" "[I", Cond.methodLink RX0 45 yJ7_fill_d0a16, Cond.static yJ7_fill_d0a16, Cond.initialized RJ7, Cond.code yJ7_fill_d0a16 cJ7_fill_d0a16 5 none, Cond.methodLink RX0 51 yJ7_fill_53178, Cond.static yJ7_fill_53178, Cond.code yJ7_fill_53178 cJ7_fill_53178 4 none, Cond.methodLink RX9 380 yX0_startFrom, Cond.instanceMethod yX0_startFrom, Cond.selects RX0 yX0_startFrom yX0_startFrom, Cond.code yX0_startFrom cX0_startFrom 3 none, Cond.methodLink RX9 151 yX0_goHourBy]
def wsX9_changedReading_r3 : List Cond := [Cond.instanceMethod yX0_goHourBy, Cond.selects RX0 yX0_goHourBy yX0_goHourBy, Cond.code yX0_goHourBy cX0_goHourBy 3 none, Cond.methodLink RX0 60 yX6_rainIn, Cond.instanceMethod yX6_rainIn, Cond.selects RX6 yX6_rainIn yX6_rainIn, Cond.initialized RX6, Cond.code yX6_rainIn cX6_rainIn 2 (some .int), Cond.fieldLink RX6 9 "RiverModel$Sky" "rains" "[I", Cond.static yX9_isOutside, Cond.initialized RX9, Cond.code yX9_isOutside cX9_isOutside 3 (some .boolean), Cond.methodLink RX0 65 yX6_tempIn, Cond.instanceMethod yX6_tempIn, Cond.selects RX6 yX6_tempIn yX6_tempIn, Cond.code yX6_tempIn cX6_tempIn 2 (some .int), Cond.fieldLink RX6 15 "RiverModel$Sky" "temps" "[I", Cond.methodLink RX0 68 yX0_goHour, Cond.instanceMethod yX0_goHour, Cond.selects RX0 yX0_goHour yX0_goHour, Cond.code yX0_goHour cX0_goHour 7 none, Cond.fieldLink RX0 75 "RiverModel$Model" "many" "I", Cond.methodLink RX0 72 yX0_bringDue, Cond.instanceMethod yX0_bringDue]
def wsX9_changedReading_r4 : List Cond := [Cond.selects RX0 yX0_bringDue yX0_bringDue, Cond.code yX0_bringDue cX0_bringDue 3 none, Cond.methodLink RX0 78 yX0_amountOf, Cond.instanceMethod yX0_amountOf, Cond.selects RX0 yX0_amountOf yX0_amountOf, Cond.code yX0_amountOf cX0_amountOf 11 (some .long), Cond.methodLink RX0 101 Lib.MathLoose.max_long.x, Cond.static Lib.MathLoose.max_long.x, Cond.initialized "java/lang/Math", Cond.code Lib.MathLoose.max_long.x Lib.MathLoose.max_long.code 4 (some .long), Cond.methodLink RX0 107 Lib.MathLoose.min_long.x, Cond.static Lib.MathLoose.min_long.x, Cond.code Lib.MathLoose.min_long.x Lib.MathLoose.min_long.code 4 (some .long), Cond.constantLong RX0 117 (100), Cond.constantLong RX0 119 (10), Cond.methodLink RX0 86 yX4_cell, Cond.static yX9_isNoStore, Cond.code yX9_isNoStore cX9_isNoStore 1 (some .boolean), Cond.methodLink RX0 94 yX0_leakOf, Cond.static yX0_leakOf, Cond.code yX0_leakOf cX0_leakOf 8 (some .long), Cond.methodLink RX0 98 yX4_capacityOf, Cond.instanceMethod yX4_capacityOf, Cond.selects RX4 yX4_capacityOf yX4_capacityOf]
def wsX9_changedReading_r5 : List Cond := [Cond.code yX4_capacityOf cX4_capacityOf 2 (some .int), Cond.methodLink RX0 110 yX4_gateOf, Cond.instanceMethod yX4_gateOf, Cond.selects RX4 yX4_gateOf yX4_gateOf, Cond.code yX4_gateOf cX4_gateOf 3 (some .int), Cond.fieldLink RX4 28 "RiverModel$Model" "gates" "I", Cond.fieldLink RX4 18 "RiverModel$Model" "gateItems" "[I", Cond.methodLink RX0 113 yX0_openingOf, Cond.instanceMethod yX0_openingOf, Cond.selects RX0 yX0_openingOf yX0_openingOf, Cond.code yX0_openingOf cX0_openingOf 2 (some .long), Cond.static yX9_isNoGate, Cond.code yX9_isNoGate cX9_isNoGate 1 (some .boolean), Cond.methodLink RX0 82 yX0_move, Cond.instanceMethod yX0_move, Cond.selects RX0 yX0_move yX0_move, Cond.code yX0_move cX0_move 8 none, Cond.methodLink RX0 124 yX0_send, Cond.instanceMethod yX0_send, Cond.selects RX0 yX0_send yX0_send, Cond.code yX0_send cX0_send 5 none, Cond.methodLink RX9 215 yX1_reading, Cond.instanceMethod yX1_reading, Cond.selects RX1 yX1_reading yX1_reading]
def wsX9_changedReading_r6 : List Cond := [Cond.initialized RX1, Cond.code yX1_reading cX1_reading 4 (some .long), Cond.fieldLink RX1 15 "RiverModel$Gauges" "places" "[I", Cond.fieldLink RX1 9 "RiverModel$Gauges" "whats" "[I", Cond.fieldLink RX1 41 "RiverModel$Course" "moved" "[J", Cond.fieldLink RX1 50 "RiverModel$Course" "held" "[J", Cond.methodLink RX1 35 yX1_isSet, Cond.instanceMethod yX1_isSet, Cond.selects RX1 yX1_isSet yX1_isSet, Cond.code yX1_isSet cX1_isSet 2 (some .boolean), Cond.static yX9_isNoItem, Cond.code yX9_isNoItem cX9_isNoItem 1 (some .boolean)]
def wsX9_changedReading : List Cond := .code yX9_changedReading cX9_changedReading 7 (some .long) :: ((wsX9_changedReading_r1 ++ (wsX9_changedReading_r2 ++ (wsX9_changedReading_r3 ++ (wsX9_changedReading_r4 ++ (wsX9_changedReading_r5 ++ wsX9_changedReading_r6))))) ++ wsX90 ++ wsX00 ++ wsX40 ++ wsX60 ++ wsX10)
def wsX9_blame_r1 : List Cond := [Cond.constantLong RX9 323 (-1000000000000000000), Cond.constantLong RX9 325 (-1000000000000000001), Cond.methodLink RX9 205 yX9_isNoGauge, Cond.static yX9_isNoGauge, Cond.initialized RX9, Cond.code yX9_isNoGauge cX9_isNoGauge 1 (some .boolean), Cond.methodLink RX9 99 yX9_isOutside, Cond.static yX9_isOutside, Cond.code yX9_isOutside cX9_isOutside 3 (some .boolean), Cond.methodLink RX9 212 yX9_lacksGauge, Cond.instanceMethod yX9_lacksGauge, Cond.selects RX9 yX9_lacksGauge yX9_lacksGauge, Cond.code yX9_lacksGauge cX9_lacksGauge 2 (some .boolean), Cond.fieldLink RX9 29 "RiverModel" "isBuilt" "Z", Cond.fieldLink RX9 74 "RiverModel" "gauges" "LRiverModel$Gauges;", Cond.methodLink RX9 346 yX1_isSet, Cond.instanceMethod yX1_isSet, Cond.selects RX1 yX1_isSet yX1_isSet, Cond.initialized RX1, Cond.code yX1_isSet cX1_isSet 2 (some .boolean), Cond.fieldLink RX1 9 "RiverModel$Gauges" "whats" "[I", Cond.methodLink RX9 327 yX9_changedReading, Cond.instanceMethod yX9_changedReading, Cond.selects RX9 yX9_changedReading yX9_changedReading]
def wsX9_blame_r2 : List Cond := [Cond.code yX9_changedReading cX9_changedReading 7 (some .long), Cond.fieldLink RX9 33 "RiverModel" "isOtherLaid" "Z", Cond.fieldLink RX9 26 "RiverModel" "other" "LRiverModel$Model;", Cond.fieldLink RX9 19 "RiverModel" "model" "LRiverModel$Model;", Cond.fieldLink RX9 43 "RiverModel" "skyB" "LRiverModel$Sky;", Cond.fieldLink RX9 39 "RiverModel" "skyA" "LRiverModel$Sky;", Cond.fieldLink RX9 57 "RiverModel" "trial" "LRiverModel$Course;", Cond.fieldLink RX9 46 "RiverModel" "startsB" "[I", Cond.methodLink RX9 147 yX0_begin, Cond.instanceMethod yX0_begin, Cond.selects RX0 yX0_begin yX0_begin, Cond.initialized RX0, Cond.code yX0_begin cX0_begin 3 none, Cond.fieldLink RX0 9 "RiverModel$Course" "held" "[J", Cond.fieldLink RX0 15 "RiverModel$Course" "moved" "[J", Cond.fieldLink RX0 18 "RiverModel$Course" "openings" "[I", Cond.fieldLink RX0 22 "RiverModel$Course" "due" "[J", Cond.fieldLink RX0 25 "RiverModel$Course" "rained" "J", Cond.fieldLink RX0 29 "RiverModel$Course" "air" "J", Cond.fieldLink RX0 32 "RiverModel$Course" "sea" "J", Cond.fieldLink RX0 35 "RiverModel$Course" "hours" "I", Cond.methodLink RX0 39 yX4_startOf, Cond.instanceMethod yX4_startOf, Cond.selects RX4 yX4_startOf yX4_startOf]
def wsX9_blame_r3 : List Cond := [Cond.initialized RX4, Cond.code yX4_startOf cX4_startOf 2 (some .int), Cond.fieldLink RX4 15 "RiverModel$Model" "storeItems" "[I", Cond.methodLink RX4 66 yX4_hasStore, Cond.instanceMethod yX4_hasStore, Cond.selects RX4 yX4_hasStore yX4_hasStore, Cond.code yX4_hasStore cX4_hasStore 2 (some .boolean), Cond.methodLink RX4 73 yX4_cell, Cond.instanceMethod yX4_cell, Cond.selects RX4 yX4_cell yX4_cell, Cond.code yX4_cell cX4_cell 3 (some .int), Cond.fieldLink RX4 9 "RiverModel$Model" "cells" "[I", Cond.methodLink RX0 45 yJ7_fill_d0a16, Cond.static yJ7_fill_d0a16, Cond.initialized RJ7, Cond.code yJ7_fill_d0a16 cJ7_fill_d0a16 5 none, Cond.methodLink RX0 51 yJ7_fill_53178, Cond.static yJ7_fill_53178, Cond.code yJ7_fill_53178 cJ7_fill_53178 4 none, Cond.methodLink RX9 380 yX0_startFrom, Cond.instanceMethod yX0_startFrom, Cond.selects RX0 yX0_startFrom yX0_startFrom, Cond.code yX0_startFrom cX0_startFrom 3 none, Cond.methodLink RX9 151 yX0_goHourBy]
def wsX9_blame_r4 : List Cond := [Cond.instanceMethod yX0_goHourBy, Cond.selects RX0 yX0_goHourBy yX0_goHourBy, Cond.code yX0_goHourBy cX0_goHourBy 3 none, Cond.methodLink RX0 60 yX6_rainIn, Cond.instanceMethod yX6_rainIn, Cond.selects RX6 yX6_rainIn yX6_rainIn, Cond.initialized RX6, Cond.code yX6_rainIn cX6_rainIn 2 (some .int), Cond.fieldLink RX6 9 "RiverModel$Sky" "rains" "[I", Cond.methodLink RX0 65 yX6_tempIn, Cond.instanceMethod yX6_tempIn, Cond.selects RX6 yX6_tempIn yX6_tempIn, Cond.code yX6_tempIn cX6_tempIn 2 (some .int), Cond.fieldLink RX6 15 "RiverModel$Sky" "temps" "[I", Cond.methodLink RX0 68 yX0_goHour, Cond.instanceMethod yX0_goHour, Cond.selects RX0 yX0_goHour yX0_goHour, Cond.code yX0_goHour cX0_goHour 7 none, Cond.fieldLink RX0 75 "RiverModel$Model" "many" "I", Cond.methodLink RX0 72 yX0_bringDue, Cond.instanceMethod yX0_bringDue, Cond.selects RX0 yX0_bringDue yX0_bringDue, Cond.code yX0_bringDue cX0_bringDue 3 none, Cond.methodLink RX0 78 yX0_amountOf]
def wsX9_blame_r5 : List Cond := [Cond.instanceMethod yX0_amountOf, Cond.selects RX0 yX0_amountOf yX0_amountOf, Cond.code yX0_amountOf cX0_amountOf 11 (some .long), Cond.methodLink RX0 101 Lib.MathLoose.max_long.x, Cond.static Lib.MathLoose.max_long.x, Cond.initialized "java/lang/Math", Cond.code Lib.MathLoose.max_long.x Lib.MathLoose.max_long.code 4 (some .long), Cond.methodLink RX0 107 Lib.MathLoose.min_long.x, Cond.static Lib.MathLoose.min_long.x, Cond.code Lib.MathLoose.min_long.x Lib.MathLoose.min_long.code 4 (some .long), Cond.constantLong RX0 117 (100), Cond.constantLong RX0 119 (10), Cond.methodLink RX0 86 yX4_cell, Cond.static yX9_isNoStore, Cond.code yX9_isNoStore cX9_isNoStore 1 (some .boolean), Cond.methodLink RX0 94 yX0_leakOf, Cond.static yX0_leakOf, Cond.code yX0_leakOf cX0_leakOf 8 (some .long), Cond.methodLink RX0 98 yX4_capacityOf, Cond.instanceMethod yX4_capacityOf, Cond.selects RX4 yX4_capacityOf yX4_capacityOf, Cond.code yX4_capacityOf cX4_capacityOf 2 (some .int), Cond.methodLink RX0 110 yX4_gateOf, Cond.instanceMethod yX4_gateOf]
def wsX9_blame_r6 : List Cond := [Cond.selects RX4 yX4_gateOf yX4_gateOf, Cond.code yX4_gateOf cX4_gateOf 3 (some .int), Cond.fieldLink RX4 28 "RiverModel$Model" "gates" "I", Cond.fieldLink RX4 18 "RiverModel$Model" "gateItems" "[I", Cond.methodLink RX0 113 yX0_openingOf, Cond.instanceMethod yX0_openingOf, Cond.selects RX0 yX0_openingOf yX0_openingOf, Cond.code yX0_openingOf cX0_openingOf 2 (some .long), Cond.static yX9_isNoGate, Cond.code yX9_isNoGate cX9_isNoGate 1 (some .boolean), Cond.methodLink RX0 82 yX0_move, Cond.instanceMethod yX0_move, Cond.selects RX0 yX0_move yX0_move, Cond.code yX0_move cX0_move 8 none, Cond.methodLink RX0 124 yX0_send, Cond.instanceMethod yX0_send, Cond.selects RX0 yX0_send yX0_send, Cond.code yX0_send cX0_send 5 none, Cond.methodLink RX9 215 yX1_reading, Cond.instanceMethod yX1_reading, Cond.selects RX1 yX1_reading yX1_reading, Cond.code yX1_reading cX1_reading 4 (some .long), Cond.fieldLink RX1 15 "RiverModel$Gauges" "places" "[I", Cond.fieldLink RX1 41 "RiverModel$Course" "moved" "[J"]
def wsX9_blame_r7 : List Cond := [Cond.fieldLink RX1 50 "RiverModel$Course" "held" "[J", Cond.methodLink RX1 35 yX1_isSet, Cond.static yX9_isNoItem, Cond.code yX9_isNoItem cX9_isNoItem 1 (some .boolean)]
def wsX9_blame : List Cond := .code yX9_blame cX9_blame 4 (some .long) :: ((wsX9_blame_r1 ++ (wsX9_blame_r2 ++ (wsX9_blame_r3 ++ (wsX9_blame_r4 ++ (wsX9_blame_r5 ++ (wsX9_blame_r6 ++ wsX9_blame_r7)))))) ++ wsX90 ++ wsX10 ++ wsX00 ++ wsX40 ++ wsX60)
def wsX9_keep : List Cond := .code yX9_keep cX9_keep 1 (some .int) :: ([.fieldLink RX9 29 "RiverModel" "isBuilt" "Z", .fieldLink RX9 67 "RiverModel" "keptMany" "I", .fieldLink RX9 63 "RiverModel" "kept" "[LRiverModel$Course;", .fieldLink RX9 53 "RiverModel" "now" "LRiverModel$Course;", .methodLink RX9 330 yX0_copyFrom, .instanceMethod yX0_copyFrom, .selects RX0 yX0_copyFrom yX0_copyFrom, .initialized RX0, .code yX0_copyFrom cX0_copyFrom 2 none, .fieldLink RX0 9 "RiverModel$Course" "held" "[J", .methodLink RX0 54 arraycopyName, .native arraycopyName, .static arraycopyName, .initialized "java/lang/System", .fieldLink RX0 15 "RiverModel$Course" "moved" "[J", .fieldLink RX0 18 "RiverModel$Course" "openings" "[I", .fieldLink RX0 22 "RiverModel$Course" "due" "[J", .fieldLink RX0 25 "RiverModel$Course" "rained" "J", .fieldLink RX0 29 "RiverModel$Course" "air" "J", .fieldLink RX0 32 "RiverModel$Course" "sea" "J", .fieldLink RX0 35 "RiverModel$Course" "hours" "I"] ++ wsX90 ++ wsX00)
def wsX9_back : List Cond := .code yX9_back cX9_back 1 (some .int) :: ([.fieldLink RX9 67 "RiverModel" "keptMany" "I", .fieldLink RX9 53 "RiverModel" "now" "LRiverModel$Course;", .fieldLink RX9 63 "RiverModel" "kept" "[LRiverModel$Course;", .methodLink RX9 99 yX9_isOutside, .static yX9_isOutside, .initialized RX9, .code yX9_isOutside cX9_isOutside 3 (some .boolean), .methodLink RX9 330 yX0_copyFrom, .instanceMethod yX0_copyFrom, .selects RX0 yX0_copyFrom yX0_copyFrom, .initialized RX0, .code yX0_copyFrom cX0_copyFrom 2 none, .fieldLink RX0 9 "RiverModel$Course" "held" "[J", .methodLink RX0 54 arraycopyName, .native arraycopyName, .static arraycopyName, .initialized "java/lang/System", .fieldLink RX0 15 "RiverModel$Course" "moved" "[J", .fieldLink RX0 18 "RiverModel$Course" "openings" "[I", .fieldLink RX0 22 "RiverModel$Course" "due" "[J", .fieldLink RX0 25 "RiverModel$Course" "rained" "J", .fieldLink RX0 29 "RiverModel$Course" "air" "J", .fieldLink RX0 32 "RiverModel$Course" "sea" "J", .fieldLink RX0 35 "RiverModel$Course" "hours" "I"] ++ wsX90 ++ wsX00)
def wsX9_count_r1 : List Cond := [Cond.fieldLink RX9 10 "RiverModel" "text" "LRiverModel$Text;", Cond.fieldLink RX9 103 "RiverModel$Text" "length" "I", Cond.fieldLink RX9 29 "RiverModel" "isBuilt" "Z", Cond.fieldLink RX9 19 "RiverModel" "model" "LRiverModel$Model;", Cond.fieldLink RX9 124 "RiverModel$Model" "many" "I", Cond.fieldLink RX9 114 "RiverModel$Model" "stores" "I", Cond.fieldLink RX9 333 "RiverModel$Model" "gates" "I", Cond.fieldLink RX9 53 "RiverModel" "now" "LRiverModel$Course;", Cond.fieldLink RX9 144 "RiverModel$Course" "hours" "I", Cond.fieldLink RX9 81 "RiverModel" "knobs" "LRiverModel$Knobs;", Cond.fieldLink RX9 74 "RiverModel" "gauges" "LRiverModel$Gauges;", Cond.fieldLink RX9 67 "RiverModel" "keptMany" "I", Cond.methodLink RX9 336 yX3_setMany, Cond.instanceMethod yX3_setMany, Cond.selects RX3 yX3_setMany yX3_setMany, Cond.initialized RX3, Cond.code yX3_setMany cX3_setMany 1 (some .int), Cond.methodLink RX3 37 yX3_isSet, Cond.instanceMethod yX3_isSet, Cond.selects RX3 yX3_isSet yX3_isSet, Cond.code yX3_isSet cX3_isSet 2 (some .boolean), Cond.fieldLink RX3 24 "RiverModel$Knobs" "manys" "[I", Cond.methodLink RX9 339 yX1_setMany, Cond.instanceMethod yX1_setMany]
def wsX9_count_r2 : List Cond := [Cond.selects RX1 yX1_setMany yX1_setMany, Cond.initialized RX1, Cond.code yX1_setMany cX1_setMany 3 (some .int), Cond.methodLink RX1 35 yX1_isSet, Cond.instanceMethod yX1_isSet, Cond.selects RX1 yX1_isSet yX1_isSet, Cond.code yX1_isSet cX1_isSet 2 (some .boolean), Cond.fieldLink RX1 9 "RiverModel$Gauges" "whats" "[I", Cond.methodLink RX9 340 yX1_seenMany, Cond.instanceMethod yX1_seenMany, Cond.selects RX1 yX1_seenMany yX1_seenMany, Cond.code yX1_seenMany cX1_seenMany 3 (some .int), Cond.fieldLink RX1 18 "RiverModel$Gauges" "seen" "[I"]
def wsX9_count : List Cond := .code yX9_count cX9_count 2 (some .int) :: ((wsX9_count_r1 ++ wsX9_count_r2) ++ wsX90 ++ wsX70 ++ wsX40 ++ wsX00 ++ wsX30 ++ wsX10)
def wsX10_forgets : List Cond := .code yX10_forgets cX10_forgets 2 none :: ([.fieldLink RX10 38 "RiverModelModel" "gaugeKind" "[I", .fieldLink RX10 44 "RiverModelModel" "seen" "[I", .fieldLink RX10 59 "RiverModelModel" "knobMany" "[I"] ++ wsX100)
def wsX10_init_r1 : List Cond := [Cond.methodLink RX10 1 objectInit, Cond.instanceMethod objectInit, Cond.code objectInit ⟨#[0xb1]⟩ 1 none, Cond.arrayClass .int, Cond.fieldLink RX10 7 "RiverModelModel" "text" "[I", Cond.fieldLink RX10 13 "RiverModelModel" "kind" "[I", Cond.fieldLink RX10 16 "RiverModelModel" "first" "[I", Cond.fieldLink RX10 19 "RiverModelModel" "second" "[I", Cond.fieldLink RX10 22 "RiverModelModel" "number" "[I", Cond.fieldLink RX10 25 "RiverModelModel" "weather" "[I", Cond.arrayClass .long, Cond.fieldLink RX10 28 "RiverModelModel" "m" "[J", Cond.fieldLink RX10 32 "RiverModelModel" "aside" "[J", Cond.fieldLink RX10 35 "RiverModelModel" "kept" "[J", Cond.fieldLink RX10 38 "RiverModelModel" "gaugeKind" "[I", Cond.fieldLink RX10 41 "RiverModelModel" "gaugeAt" "[I", Cond.fieldLink RX10 44 "RiverModelModel" "seen" "[I", Cond.fieldLink RX10 47 "RiverModelModel" "knobItem" "[I", Cond.fieldLink RX10 50 "RiverModelModel" "knobAt" "[I", Cond.fieldLink RX10 53 "RiverModelModel" "knobFrom" "[I", Cond.fieldLink RX10 56 "RiverModelModel" "knobStep" "[I", Cond.fieldLink RX10 59 "RiverModelModel" "knobMany" "[I", Cond.fieldLink RX10 62 "RiverModelModel" "weight" "[I", Cond.fieldLink RX10 65 "RiverModelModel" "ahead" "[I"]
def wsX10_init_r2 : List Cond := [Cond.fieldLink RX10 68 "RiverModelModel" "booked" "[I", Cond.fieldLink RX10 71 "RiverModelModel" "startB" "[I", Cond.fieldLink RX10 74 "RiverModelModel" "readNumber" "[I", Cond.fieldLink RX10 77 "RiverModelModel" "own" "[J", Cond.methodLink RX10 80 yX10_forgets, Cond.instanceMethod yX10_forgets, Cond.selects RX10 yX10_forgets yX10_forgets, Cond.initialized RX10, Cond.code yX10_forgets cX10_forgets 2 none]
def wsX10_init : List Cond := .code yX10_init cX10_init 2 none :: ((wsX10_init_r1 ++ wsX10_init_r2) ++ wsX100)
def wsX10_in : List Cond := .code yX10_in cX10_in 6 (some .boolean) :: ([])
def wsX10_write : List Cond := .code yX10_write cX10_write 5 (some .int) :: ([.constantLong RX10 83 (8), .fieldLink RX10 89 "RiverModelModel" "length" "I", .fieldLink RX10 7 "RiverModelModel" "text" "[I", .constantLong RX10 93 (255), .methodLink RX10 85 yX10_in, .static yX10_in, .initialized RX10, .code yX10_in cX10_in 6 (some .boolean)] ++ wsX100)
def wsX10_clear : List Cond := .code yX10_clear cX10_clear 2 (some .int) :: ([.fieldLink RX10 89 "RiverModelModel" "length" "I"] ++ wsX100)
def wsX10_byteAt : List Cond := .code yX10_byteAt cX10_byteAt 2 (some .int) :: ([.fieldLink RX10 89 "RiverModelModel" "length" "I", .fieldLink RX10 7 "RiverModelModel" "text" "[I"] ++ wsX100)
def wsX10_isName : List Cond := .code yX10_isName cX10_isName 1 (some .boolean) :: ([.constantLong RX10 95 (97), .constantLong RX10 97 (112), .methodLink RX10 85 yX10_in, .static yX10_in, .initialized RX10, .code yX10_in cX10_in 6 (some .boolean)])
def wsX10_shape : List Cond := .code yX10_shape cX10_shape 1 (some .int) :: ([])
def wsX10_areWell : List Cond := .code yX10_areWell cX10_areWell 4 (some .boolean) :: ([.constantLong RX10 99 (1000000), .constantLong RX10 101 (1000), .constantLong RX10 103 (10000), .constantLong RX10 105 (12), .constantLong RX10 107 (100), .methodLink RX10 85 yX10_in, .static yX10_in, .initialized RX10, .code yX10_in cX10_in 6 (some .boolean)])
def wsX10_readsNumber : List Cond := .code yX10_readsNumber cX10_readsNumber 3 (some .boolean) :: ([.fieldLink RX10 109 "RiverModelModel" "end" "I", .fieldLink RX10 116 "RiverModelModel" "figures" "I", .constantLong RX10 119 (48), .constantLong RX10 121 (57), .fieldLink RX10 74 "RiverModelModel" "readNumber" "[I", .constantLong RX10 123 (7), .methodLink RX10 112 yX10_byteAt, .instanceMethod yX10_byteAt, .selects RX10 yX10_byteAt yX10_byteAt, .initialized RX10, .code yX10_byteAt cX10_byteAt 2 (some .int), .fieldLink RX10 89 "RiverModelModel" "length" "I", .fieldLink RX10 7 "RiverModelModel" "text" "[I", .methodLink RX10 85 yX10_in, .static yX10_in, .code yX10_in cX10_in 6 (some .boolean)] ++ wsX100)
def wsX10_readsItem_r1 : List Cond := [Cond.fieldLink RX10 109 "RiverModelModel" "end" "I", Cond.fieldLink RX10 125 "RiverModelModel" "readKind" "I", Cond.fieldLink RX10 135 "RiverModelModel" "readFirst" "I", Cond.fieldLink RX10 138 "RiverModelModel" "readSecond" "I", Cond.fieldLink RX10 74 "RiverModelModel" "readNumber" "[I", Cond.methodLink RX10 112 yX10_byteAt, Cond.instanceMethod yX10_byteAt, Cond.selects RX10 yX10_byteAt yX10_byteAt, Cond.initialized RX10, Cond.code yX10_byteAt cX10_byteAt 2 (some .int), Cond.fieldLink RX10 89 "RiverModelModel" "length" "I", Cond.fieldLink RX10 7 "RiverModelModel" "text" "[I", Cond.methodLink RX10 128 yX10_shape, Cond.static yX10_shape, Cond.code yX10_shape cX10_shape 1 (some .int), Cond.methodLink RX10 131 yX10_isName, Cond.static yX10_isName, Cond.code yX10_isName cX10_isName 1 (some .boolean), Cond.constantLong RX10 95 (97), Cond.constantLong RX10 97 (112), Cond.methodLink RX10 85 yX10_in, Cond.static yX10_in, Cond.code yX10_in cX10_in 6 (some .boolean), Cond.methodLink RX10 141 yX10_readsNumber]
def wsX10_readsItem_r2 : List Cond := [Cond.instanceMethod yX10_readsNumber, Cond.selects RX10 yX10_readsNumber yX10_readsNumber, Cond.code yX10_readsNumber cX10_readsNumber 3 (some .boolean), Cond.fieldLink RX10 116 "RiverModelModel" "figures" "I", Cond.constantLong RX10 119 (48), Cond.constantLong RX10 121 (57), Cond.constantLong RX10 123 (7), Cond.methodLink RX10 144 yX10_areWell, Cond.static yX10_areWell, Cond.code yX10_areWell cX10_areWell 4 (some .boolean), Cond.constantLong RX10 99 (1000000), Cond.constantLong RX10 101 (1000), Cond.constantLong RX10 103 (10000), Cond.constantLong RX10 105 (12), Cond.constantLong RX10 107 (100)]
def wsX10_readsItem : List Cond := .code yX10_readsItem cX10_readsItem 8 (some .boolean) :: ((wsX10_readsItem_r1 ++ wsX10_readsItem_r2) ++ wsX100)
def wsX10_lays : List Cond := .code yX10_lays cX10_lays 5 none :: ([.fieldLink RX10 13 "RiverModelModel" "kind" "[I", .fieldLink RX10 125 "RiverModelModel" "readKind" "I", .fieldLink RX10 16 "RiverModelModel" "first" "[I", .fieldLink RX10 135 "RiverModelModel" "readFirst" "I", .fieldLink RX10 19 "RiverModelModel" "second" "[I", .fieldLink RX10 138 "RiverModelModel" "readSecond" "I", .fieldLink RX10 22 "RiverModelModel" "number" "[I", .fieldLink RX10 74 "RiverModelModel" "readNumber" "[I"] ++ wsX100)
def wsX10_faultOf_r1 : List Cond := [Cond.fieldLink RX10 148 "RiverModelModel" "readItems" "I", Cond.fieldLink RX10 89 "RiverModelModel" "length" "I", Cond.fieldLink RX10 125 "RiverModelModel" "readKind" "I", Cond.fieldLink RX10 135 "RiverModelModel" "readFirst" "I", Cond.fieldLink RX10 109 "RiverModelModel" "end" "I", Cond.methodLink RX10 151 yX10_readsItem, Cond.instanceMethod yX10_readsItem, Cond.selects RX10 yX10_readsItem yX10_readsItem, Cond.initialized RX10, Cond.code yX10_readsItem cX10_readsItem 8 (some .boolean), Cond.fieldLink RX10 138 "RiverModelModel" "readSecond" "I", Cond.fieldLink RX10 74 "RiverModelModel" "readNumber" "[I", Cond.methodLink RX10 112 yX10_byteAt, Cond.instanceMethod yX10_byteAt, Cond.selects RX10 yX10_byteAt yX10_byteAt, Cond.code yX10_byteAt cX10_byteAt 2 (some .int), Cond.fieldLink RX10 7 "RiverModelModel" "text" "[I", Cond.methodLink RX10 128 yX10_shape, Cond.static yX10_shape, Cond.code yX10_shape cX10_shape 1 (some .int), Cond.methodLink RX10 131 yX10_isName, Cond.static yX10_isName, Cond.code yX10_isName cX10_isName 1 (some .boolean), Cond.constantLong RX10 95 (97)]
def wsX10_faultOf_r2 : List Cond := [Cond.constantLong RX10 97 (112), Cond.methodLink RX10 85 yX10_in, Cond.static yX10_in, Cond.code yX10_in cX10_in 6 (some .boolean), Cond.methodLink RX10 141 yX10_readsNumber, Cond.instanceMethod yX10_readsNumber, Cond.selects RX10 yX10_readsNumber yX10_readsNumber, Cond.code yX10_readsNumber cX10_readsNumber 3 (some .boolean), Cond.fieldLink RX10 116 "RiverModelModel" "figures" "I", Cond.constantLong RX10 119 (48), Cond.constantLong RX10 121 (57), Cond.constantLong RX10 123 (7), Cond.methodLink RX10 144 yX10_areWell, Cond.static yX10_areWell, Cond.code yX10_areWell cX10_areWell 4 (some .boolean), Cond.constantLong RX10 99 (1000000), Cond.constantLong RX10 101 (1000), Cond.constantLong RX10 103 (10000), Cond.constantLong RX10 105 (12), Cond.constantLong RX10 107 (100), Cond.methodLink RX10 155 yX10_lays, Cond.instanceMethod yX10_lays, Cond.selects RX10 yX10_lays yX10_lays, Cond.code yX10_lays cX10_lays 5 none]
def wsX10_faultOf_r3 : List Cond := [Cond.fieldLink RX10 13 "RiverModelModel" "kind" "[I", Cond.fieldLink RX10 16 "RiverModelModel" "first" "[I", Cond.fieldLink RX10 19 "RiverModelModel" "second" "[I", Cond.fieldLink RX10 22 "RiverModelModel" "number" "[I"]
def wsX10_faultOf : List Cond := .code yX10_faultOf cX10_faultOf 4 (some .int) :: ((wsX10_faultOf_r1 ++ (wsX10_faultOf_r2 ++ wsX10_faultOf_r3)) ++ wsX100)
def wsX10_fault_r1 : List Cond := [Cond.methodLink RX10 159 yX10_faultOf, Cond.instanceMethod yX10_faultOf, Cond.selects RX10 yX10_faultOf yX10_faultOf, Cond.initialized RX10, Cond.code yX10_faultOf cX10_faultOf 4 (some .int), Cond.fieldLink RX10 148 "RiverModelModel" "readItems" "I", Cond.fieldLink RX10 89 "RiverModelModel" "length" "I", Cond.fieldLink RX10 125 "RiverModelModel" "readKind" "I", Cond.fieldLink RX10 135 "RiverModelModel" "readFirst" "I", Cond.fieldLink RX10 109 "RiverModelModel" "end" "I", Cond.methodLink RX10 151 yX10_readsItem, Cond.instanceMethod yX10_readsItem, Cond.selects RX10 yX10_readsItem yX10_readsItem, Cond.code yX10_readsItem cX10_readsItem 8 (some .boolean), Cond.fieldLink RX10 138 "RiverModelModel" "readSecond" "I", Cond.fieldLink RX10 74 "RiverModelModel" "readNumber" "[I", Cond.methodLink RX10 112 yX10_byteAt, Cond.instanceMethod yX10_byteAt, Cond.selects RX10 yX10_byteAt yX10_byteAt, Cond.code yX10_byteAt cX10_byteAt 2 (some .int), Cond.fieldLink RX10 7 "RiverModelModel" "text" "[I", Cond.methodLink RX10 128 yX10_shape, Cond.static yX10_shape, Cond.code yX10_shape cX10_shape 1 (some .int)]
def wsX10_fault_r2 : List Cond := [Cond.methodLink RX10 131 yX10_isName, Cond.static yX10_isName, Cond.code yX10_isName cX10_isName 1 (some .boolean), Cond.constantLong RX10 95 (97), Cond.constantLong RX10 97 (112), Cond.methodLink RX10 85 yX10_in, Cond.static yX10_in, Cond.code yX10_in cX10_in 6 (some .boolean), Cond.methodLink RX10 141 yX10_readsNumber, Cond.instanceMethod yX10_readsNumber, Cond.selects RX10 yX10_readsNumber yX10_readsNumber, Cond.code yX10_readsNumber cX10_readsNumber 3 (some .boolean), Cond.fieldLink RX10 116 "RiverModelModel" "figures" "I", Cond.constantLong RX10 119 (48), Cond.constantLong RX10 121 (57), Cond.constantLong RX10 123 (7), Cond.methodLink RX10 144 yX10_areWell, Cond.static yX10_areWell, Cond.code yX10_areWell cX10_areWell 4 (some .boolean), Cond.constantLong RX10 99 (1000000), Cond.constantLong RX10 101 (1000), Cond.constantLong RX10 103 (10000), Cond.constantLong RX10 105 (12), Cond.constantLong RX10 107 (100)]
def wsX10_fault_r3 : List Cond := [Cond.methodLink RX10 155 yX10_lays, Cond.instanceMethod yX10_lays, Cond.selects RX10 yX10_lays yX10_lays, Cond.code yX10_lays cX10_lays 5 none, Cond.fieldLink RX10 13 "RiverModelModel" "kind" "[I", Cond.fieldLink RX10 16 "RiverModelModel" "first" "[I", Cond.fieldLink RX10 19 "RiverModelModel" "second" "[I", Cond.fieldLink RX10 22 "RiverModelModel" "number" "[I"]
def wsX10_fault : List Cond := .code yX10_fault cX10_fault 1 (some .int) :: ((wsX10_fault_r1 ++ (wsX10_fault_r2 ++ wsX10_fault_r3)) ++ wsX100)
def wsX10_copies : List Cond := .code yX10_copies cX10_copies 4 none :: ([.fieldLink RX10 13 "RiverModelModel" "kind" "[I", .fieldLink RX10 16 "RiverModelModel" "first" "[I", .fieldLink RX10 19 "RiverModelModel" "second" "[I", .fieldLink RX10 22 "RiverModelModel" "number" "[I"] ++ wsX100)
def wsX10_storeAt : List Cond := .code yX10_storeAt cX10_storeAt 5 (some .int) :: ([.fieldLink RX10 163 "RiverModelModel" "items" "I", .fieldLink RX10 13 "RiverModelModel" "kind" "[I", .fieldLink RX10 16 "RiverModelModel" "first" "[I"] ++ wsX100)
def wsX10_isStore : List Cond := .code yX10_isStore cX10_isStore 2 (some .boolean) :: ([.methodLink RX10 166 yX10_storeAt, .instanceMethod yX10_storeAt, .selects RX10 yX10_storeAt yX10_storeAt, .initialized RX10, .code yX10_storeAt cX10_storeAt 5 (some .int), .fieldLink RX10 163 "RiverModelModel" "items" "I", .fieldLink RX10 13 "RiverModelModel" "kind" "[I", .fieldLink RX10 16 "RiverModelModel" "first" "[I"] ++ wsX100)
def wsX10_startOf : List Cond := .code yX10_startOf cX10_startOf 4 (some .int) :: ([.fieldLink RX10 22 "RiverModelModel" "number" "[I", .methodLink RX10 166 yX10_storeAt, .instanceMethod yX10_storeAt, .selects RX10 yX10_storeAt yX10_storeAt, .initialized RX10, .code yX10_storeAt cX10_storeAt 5 (some .int), .fieldLink RX10 163 "RiverModelModel" "items" "I", .fieldLink RX10 13 "RiverModelModel" "kind" "[I", .fieldLink RX10 16 "RiverModelModel" "first" "[I"] ++ wsX100)
def wsX10_begins_r1 : List Cond := [Cond.fieldLink RX10 28 "RiverModelModel" "m" "[J", Cond.constantLong RX10 204 (224), Cond.constantLong RX10 206 (227), Cond.constantLong RX10 196 (5), Cond.fieldLink RX10 71 "RiverModelModel" "startB" "[I", Cond.methodLink RX10 85 yX10_in, Cond.static yX10_in, Cond.initialized RX10, Cond.code yX10_in cX10_in 6 (some .boolean), Cond.methodLink RX10 208 yX10_isStore, Cond.instanceMethod yX10_isStore, Cond.selects RX10 yX10_isStore yX10_isStore, Cond.code yX10_isStore cX10_isStore 2 (some .boolean), Cond.methodLink RX10 166 yX10_storeAt, Cond.instanceMethod yX10_storeAt, Cond.selects RX10 yX10_storeAt yX10_storeAt, Cond.code yX10_storeAt cX10_storeAt 5 (some .int), Cond.fieldLink RX10 163 "RiverModelModel" "items" "I", Cond.fieldLink RX10 13 "RiverModelModel" "kind" "[I", Cond.fieldLink RX10 16 "RiverModelModel" "first" "[I", Cond.methodLink RX10 183 yX10_startOf, Cond.instanceMethod yX10_startOf, Cond.selects RX10 yX10_startOf yX10_startOf, Cond.code yX10_startOf cX10_startOf 4 (some .int)]
def wsX10_begins_r2 : List Cond := [Cond.fieldLink RX10 22 "RiverModelModel" "number" "[I"]
def wsX10_begins : List Cond := .code yX10_begins cX10_begins 4 none :: ((wsX10_begins_r1 ++ wsX10_begins_r2) ++ wsX100)
def wsX10_becomes_r1 : List Cond := [Cond.fieldLink RX10 173 "RiverModelModel" "isBuilt" "Z", Cond.fieldLink RX10 177 "RiverModelModel" "isSwapped" "Z", Cond.fieldLink RX10 180 "RiverModelModel" "keptMany" "I", Cond.fieldLink RX10 71 "RiverModelModel" "startB" "[I", Cond.methodLink RX10 170 yX10_copies, Cond.instanceMethod yX10_copies, Cond.selects RX10 yX10_copies yX10_copies, Cond.initialized RX10, Cond.code yX10_copies cX10_copies 4 none, Cond.fieldLink RX10 13 "RiverModelModel" "kind" "[I", Cond.fieldLink RX10 16 "RiverModelModel" "first" "[I", Cond.fieldLink RX10 19 "RiverModelModel" "second" "[I", Cond.fieldLink RX10 22 "RiverModelModel" "number" "[I", Cond.methodLink RX10 183 yX10_startOf, Cond.instanceMethod yX10_startOf, Cond.selects RX10 yX10_startOf yX10_startOf, Cond.code yX10_startOf cX10_startOf 4 (some .int), Cond.methodLink RX10 166 yX10_storeAt, Cond.instanceMethod yX10_storeAt, Cond.selects RX10 yX10_storeAt yX10_storeAt, Cond.code yX10_storeAt cX10_storeAt 5 (some .int), Cond.fieldLink RX10 163 "RiverModelModel" "items" "I", Cond.methodLink RX10 186 yX10_begins, Cond.instanceMethod yX10_begins]
def wsX10_becomes_r2 : List Cond := [Cond.selects RX10 yX10_begins yX10_begins, Cond.code yX10_begins cX10_begins 4 none, Cond.fieldLink RX10 28 "RiverModelModel" "m" "[J", Cond.constantLong RX10 204 (224), Cond.constantLong RX10 206 (227), Cond.constantLong RX10 196 (5), Cond.methodLink RX10 85 yX10_in, Cond.static yX10_in, Cond.code yX10_in cX10_in 6 (some .boolean), Cond.methodLink RX10 208 yX10_isStore, Cond.instanceMethod yX10_isStore, Cond.selects RX10 yX10_isStore yX10_isStore, Cond.code yX10_isStore cX10_isStore 2 (some .boolean)]
def wsX10_becomes : List Cond := .code yX10_becomes cX10_becomes 3 none :: ((wsX10_becomes_r1 ++ wsX10_becomes_r2) ++ wsX100)
def wsX10_build_r1 : List Cond := [Cond.fieldLink RX10 148 "RiverModelModel" "readItems" "I", Cond.fieldLink RX10 13 "RiverModelModel" "kind" "[I", Cond.fieldLink RX10 163 "RiverModelModel" "items" "I", Cond.methodLink RX10 159 yX10_faultOf, Cond.instanceMethod yX10_faultOf, Cond.selects RX10 yX10_faultOf yX10_faultOf, Cond.initialized RX10, Cond.code yX10_faultOf cX10_faultOf 4 (some .int), Cond.fieldLink RX10 89 "RiverModelModel" "length" "I", Cond.fieldLink RX10 125 "RiverModelModel" "readKind" "I", Cond.fieldLink RX10 135 "RiverModelModel" "readFirst" "I", Cond.fieldLink RX10 109 "RiverModelModel" "end" "I", Cond.methodLink RX10 151 yX10_readsItem, Cond.instanceMethod yX10_readsItem, Cond.selects RX10 yX10_readsItem yX10_readsItem, Cond.code yX10_readsItem cX10_readsItem 8 (some .boolean), Cond.fieldLink RX10 138 "RiverModelModel" "readSecond" "I", Cond.fieldLink RX10 74 "RiverModelModel" "readNumber" "[I", Cond.methodLink RX10 112 yX10_byteAt, Cond.instanceMethod yX10_byteAt, Cond.selects RX10 yX10_byteAt yX10_byteAt, Cond.code yX10_byteAt cX10_byteAt 2 (some .int), Cond.fieldLink RX10 7 "RiverModelModel" "text" "[I", Cond.methodLink RX10 128 yX10_shape]
def wsX10_build_r2 : List Cond := [Cond.static yX10_shape, Cond.code yX10_shape cX10_shape 1 (some .int), Cond.methodLink RX10 131 yX10_isName, Cond.static yX10_isName, Cond.code yX10_isName cX10_isName 1 (some .boolean), Cond.constantLong RX10 95 (97), Cond.constantLong RX10 97 (112), Cond.methodLink RX10 85 yX10_in, Cond.static yX10_in, Cond.code yX10_in cX10_in 6 (some .boolean), Cond.methodLink RX10 141 yX10_readsNumber, Cond.instanceMethod yX10_readsNumber, Cond.selects RX10 yX10_readsNumber yX10_readsNumber, Cond.code yX10_readsNumber cX10_readsNumber 3 (some .boolean), Cond.fieldLink RX10 116 "RiverModelModel" "figures" "I", Cond.constantLong RX10 119 (48), Cond.constantLong RX10 121 (57), Cond.constantLong RX10 123 (7), Cond.methodLink RX10 144 yX10_areWell, Cond.static yX10_areWell, Cond.code yX10_areWell cX10_areWell 4 (some .boolean), Cond.constantLong RX10 99 (1000000), Cond.constantLong RX10 101 (1000), Cond.constantLong RX10 103 (10000)]
def wsX10_build_r3 : List Cond := [Cond.constantLong RX10 105 (12), Cond.constantLong RX10 107 (100), Cond.methodLink RX10 155 yX10_lays, Cond.instanceMethod yX10_lays, Cond.selects RX10 yX10_lays yX10_lays, Cond.code yX10_lays cX10_lays 5 none, Cond.fieldLink RX10 16 "RiverModelModel" "first" "[I", Cond.fieldLink RX10 19 "RiverModelModel" "second" "[I", Cond.fieldLink RX10 22 "RiverModelModel" "number" "[I", Cond.methodLink RX10 190 yX10_becomes, Cond.instanceMethod yX10_becomes, Cond.selects RX10 yX10_becomes yX10_becomes, Cond.code yX10_becomes cX10_becomes 3 none, Cond.fieldLink RX10 173 "RiverModelModel" "isBuilt" "Z", Cond.fieldLink RX10 177 "RiverModelModel" "isSwapped" "Z", Cond.fieldLink RX10 180 "RiverModelModel" "keptMany" "I", Cond.fieldLink RX10 71 "RiverModelModel" "startB" "[I", Cond.methodLink RX10 170 yX10_copies, Cond.instanceMethod yX10_copies, Cond.selects RX10 yX10_copies yX10_copies, Cond.code yX10_copies cX10_copies 4 none, Cond.methodLink RX10 183 yX10_startOf, Cond.instanceMethod yX10_startOf, Cond.selects RX10 yX10_startOf yX10_startOf]
def wsX10_build_r4 : List Cond := [Cond.code yX10_startOf cX10_startOf 4 (some .int), Cond.methodLink RX10 166 yX10_storeAt, Cond.instanceMethod yX10_storeAt, Cond.selects RX10 yX10_storeAt yX10_storeAt, Cond.code yX10_storeAt cX10_storeAt 5 (some .int), Cond.methodLink RX10 186 yX10_begins, Cond.instanceMethod yX10_begins, Cond.selects RX10 yX10_begins yX10_begins, Cond.code yX10_begins cX10_begins 4 none, Cond.fieldLink RX10 28 "RiverModelModel" "m" "[J", Cond.constantLong RX10 204 (224), Cond.constantLong RX10 206 (227), Cond.constantLong RX10 196 (5), Cond.methodLink RX10 208 yX10_isStore, Cond.instanceMethod yX10_isStore, Cond.selects RX10 yX10_isStore yX10_isStore, Cond.code yX10_isStore cX10_isStore 2 (some .boolean), Cond.methodLink RX10 80 yX10_forgets, Cond.instanceMethod yX10_forgets, Cond.selects RX10 yX10_forgets yX10_forgets, Cond.code yX10_forgets cX10_forgets 2 none, Cond.fieldLink RX10 38 "RiverModelModel" "gaugeKind" "[I", Cond.fieldLink RX10 44 "RiverModelModel" "seen" "[I", Cond.fieldLink RX10 59 "RiverModelModel" "knobMany" "[I"]
def wsX10_build : List Cond := .code yX10_build cX10_build 3 (some .int) :: ((wsX10_build_r1 ++ (wsX10_build_r2 ++ (wsX10_build_r3 ++ wsX10_build_r4))) ++ wsX100)
def wsX10_item : List Cond := .code yX10_item cX10_item 3 (some .int) :: ([.constantLong RX10 194 (39), .constantLong RX10 196 (5), .fieldLink RX10 173 "RiverModelModel" "isBuilt" "Z", .fieldLink RX10 163 "RiverModelModel" "items" "I", .fieldLink RX10 13 "RiverModelModel" "kind" "[I", .fieldLink RX10 16 "RiverModelModel" "first" "[I", .fieldLink RX10 19 "RiverModelModel" "second" "[I", .fieldLink RX10 22 "RiverModelModel" "number" "[I", .methodLink RX10 85 yX10_in, .static yX10_in, .initialized RX10, .code yX10_in cX10_in 6 (some .boolean)] ++ wsX100)
def wsX10_weather : List Cond := .code yX10_weather cX10_weather 5 (some .int) :: ([.constantLong RX10 198 (95), .constantLong RX10 103 (10000), .constantLong RX10 200 (-30), .constantLong RX10 202 (40), .fieldLink RX10 25 "RiverModelModel" "weather" "[I", .methodLink RX10 85 yX10_in, .static yX10_in, .initialized RX10, .code yX10_in cX10_in 6 (some .boolean)] ++ wsX100)
def wsX10_most : List Cond := .code yX10_most cX10_most 4 (some .long) :: ([.fieldLink RX10 28 "RiverModelModel" "m" "[J"] ++ wsX100)
def wsX10_capacity : List Cond := .code yX10_capacity cX10_capacity 3 (some .long) :: ([.fieldLink RX10 22 "RiverModelModel" "number" "[I", .fieldLink RX10 16 "RiverModelModel" "first" "[I", .methodLink RX10 166 yX10_storeAt, .instanceMethod yX10_storeAt, .selects RX10 yX10_storeAt yX10_storeAt, .initialized RX10, .code yX10_storeAt cX10_storeAt 5 (some .int), .fieldLink RX10 163 "RiverModelModel" "items" "I", .fieldLink RX10 13 "RiverModelModel" "kind" "[I"] ++ wsX100)
def wsX10_moves : List Cond := .code yX10_moves cX10_moves 8 (some .long) :: ([.fieldLink RX10 16 "RiverModelModel" "first" "[I", .fieldLink RX10 22 "RiverModelModel" "number" "[I", .fieldLink RX10 13 "RiverModelModel" "kind" "[I", .fieldLink RX10 28 "RiverModelModel" "m" "[J", .constantLong RX10 107 (100), .constantLong RX10 219 (10), .methodLink RX10 211 yX10_capacity, .instanceMethod yX10_capacity, .selects RX10 yX10_capacity yX10_capacity, .initialized RX10, .code yX10_capacity cX10_capacity 3 (some .long), .methodLink RX10 166 yX10_storeAt, .instanceMethod yX10_storeAt, .selects RX10 yX10_storeAt yX10_storeAt, .code yX10_storeAt cX10_storeAt 5 (some .int), .fieldLink RX10 163 "RiverModelModel" "items" "I", .methodLink RX10 215 yX10_most, .instanceMethod yX10_most, .selects RX10 yX10_most yX10_most, .code yX10_most cX10_most 4 (some .long)] ++ wsX100)
def wsX10_passes_r1 : List Cond := [Cond.fieldLink RX10 28 "RiverModelModel" "m" "[J", Cond.fieldLink RX10 163 "RiverModelModel" "items" "I", Cond.fieldLink RX10 13 "RiverModelModel" "kind" "[I", Cond.fieldLink RX10 16 "RiverModelModel" "first" "[I", Cond.fieldLink RX10 19 "RiverModelModel" "second" "[I", Cond.fieldLink RX10 22 "RiverModelModel" "number" "[I", Cond.methodLink RX10 221 yX10_moves, Cond.instanceMethod yX10_moves, Cond.selects RX10 yX10_moves yX10_moves, Cond.initialized RX10, Cond.code yX10_moves cX10_moves 8 (some .long), Cond.constantLong RX10 107 (100), Cond.constantLong RX10 219 (10), Cond.methodLink RX10 211 yX10_capacity, Cond.instanceMethod yX10_capacity, Cond.selects RX10 yX10_capacity yX10_capacity, Cond.code yX10_capacity cX10_capacity 3 (some .long), Cond.methodLink RX10 166 yX10_storeAt, Cond.instanceMethod yX10_storeAt, Cond.selects RX10 yX10_storeAt yX10_storeAt, Cond.code yX10_storeAt cX10_storeAt 5 (some .int), Cond.methodLink RX10 215 yX10_most, Cond.instanceMethod yX10_most, Cond.selects RX10 yX10_most yX10_most]
def wsX10_passes_r2 : List Cond := [Cond.code yX10_most cX10_most 4 (some .long)]
def wsX10_passes : List Cond := .code yX10_passes cX10_passes 12 none :: ((wsX10_passes_r1 ++ wsX10_passes_r2) ++ wsX100)
def wsX10_goes_r1 : List Cond := [Cond.fieldLink RX10 28 "RiverModelModel" "m" "[J", Cond.fieldLink RX10 25 "RiverModelModel" "weather" "[I", Cond.methodLink RX10 225 yX10_passes, Cond.instanceMethod yX10_passes, Cond.selects RX10 yX10_passes yX10_passes, Cond.initialized RX10, Cond.code yX10_passes cX10_passes 12 none, Cond.fieldLink RX10 163 "RiverModelModel" "items" "I", Cond.fieldLink RX10 13 "RiverModelModel" "kind" "[I", Cond.fieldLink RX10 16 "RiverModelModel" "first" "[I", Cond.fieldLink RX10 19 "RiverModelModel" "second" "[I", Cond.fieldLink RX10 22 "RiverModelModel" "number" "[I", Cond.methodLink RX10 221 yX10_moves, Cond.instanceMethod yX10_moves, Cond.selects RX10 yX10_moves yX10_moves, Cond.code yX10_moves cX10_moves 8 (some .long), Cond.constantLong RX10 107 (100), Cond.constantLong RX10 219 (10), Cond.methodLink RX10 211 yX10_capacity, Cond.instanceMethod yX10_capacity, Cond.selects RX10 yX10_capacity yX10_capacity, Cond.code yX10_capacity cX10_capacity 3 (some .long), Cond.methodLink RX10 166 yX10_storeAt, Cond.instanceMethod yX10_storeAt]
def wsX10_goes_r2 : List Cond := [Cond.selects RX10 yX10_storeAt yX10_storeAt, Cond.code yX10_storeAt cX10_storeAt 5 (some .int), Cond.methodLink RX10 215 yX10_most, Cond.instanceMethod yX10_most, Cond.selects RX10 yX10_most yX10_most, Cond.code yX10_most cX10_most 4 (some .long)]
def wsX10_goes : List Cond := .code yX10_goes cX10_goes 4 none :: ((wsX10_goes_r1 ++ wsX10_goes_r2) ++ wsX100)
def wsX10_asides : List Cond := .code yX10_asides cX10_asides 2 none :: ([.fieldLink RX10 32 "RiverModelModel" "aside" "[J", .fieldLink RX10 28 "RiverModelModel" "m" "[J"] ++ wsX100)
def wsX10_returns : List Cond := .code yX10_returns cX10_returns 2 none :: ([.fieldLink RX10 28 "RiverModelModel" "m" "[J", .fieldLink RX10 32 "RiverModelModel" "aside" "[J"] ++ wsX100)
def wsX10_anew_r1 : List Cond := [Cond.fieldLink RX10 173 "RiverModelModel" "isBuilt" "Z", Cond.fieldLink RX10 28 "RiverModelModel" "m" "[J", Cond.methodLink RX10 186 yX10_begins, Cond.instanceMethod yX10_begins, Cond.selects RX10 yX10_begins yX10_begins, Cond.initialized RX10, Cond.code yX10_begins cX10_begins 4 none, Cond.constantLong RX10 204 (224), Cond.constantLong RX10 206 (227), Cond.constantLong RX10 196 (5), Cond.fieldLink RX10 71 "RiverModelModel" "startB" "[I", Cond.methodLink RX10 85 yX10_in, Cond.static yX10_in, Cond.code yX10_in cX10_in 6 (some .boolean), Cond.methodLink RX10 208 yX10_isStore, Cond.instanceMethod yX10_isStore, Cond.selects RX10 yX10_isStore yX10_isStore, Cond.code yX10_isStore cX10_isStore 2 (some .boolean), Cond.methodLink RX10 166 yX10_storeAt, Cond.instanceMethod yX10_storeAt, Cond.selects RX10 yX10_storeAt yX10_storeAt, Cond.code yX10_storeAt cX10_storeAt 5 (some .int), Cond.fieldLink RX10 163 "RiverModelModel" "items" "I", Cond.fieldLink RX10 13 "RiverModelModel" "kind" "[I"]
def wsX10_anew_r2 : List Cond := [Cond.fieldLink RX10 16 "RiverModelModel" "first" "[I", Cond.methodLink RX10 183 yX10_startOf, Cond.instanceMethod yX10_startOf, Cond.selects RX10 yX10_startOf yX10_startOf, Cond.code yX10_startOf cX10_startOf 4 (some .int), Cond.fieldLink RX10 22 "RiverModelModel" "number" "[I"]
def wsX10_anew : List Cond := .code yX10_anew cX10_anew 2 (some .int) :: ((wsX10_anew_r1 ++ wsX10_anew_r2) ++ wsX100)
def wsX10_run_r1 : List Cond := [Cond.constantLong RX10 229 (96), Cond.fieldLink RX10 173 "RiverModelModel" "isBuilt" "Z", Cond.fieldLink RX10 28 "RiverModelModel" "m" "[J", Cond.methodLink RX10 85 yX10_in, Cond.static yX10_in, Cond.initialized RX10, Cond.code yX10_in cX10_in 6 (some .boolean), Cond.methodLink RX10 231 yX10_goes, Cond.instanceMethod yX10_goes, Cond.selects RX10 yX10_goes yX10_goes, Cond.code yX10_goes cX10_goes 4 none, Cond.fieldLink RX10 25 "RiverModelModel" "weather" "[I", Cond.methodLink RX10 225 yX10_passes, Cond.instanceMethod yX10_passes, Cond.selects RX10 yX10_passes yX10_passes, Cond.code yX10_passes cX10_passes 12 none, Cond.fieldLink RX10 163 "RiverModelModel" "items" "I", Cond.fieldLink RX10 13 "RiverModelModel" "kind" "[I", Cond.fieldLink RX10 16 "RiverModelModel" "first" "[I", Cond.fieldLink RX10 19 "RiverModelModel" "second" "[I", Cond.fieldLink RX10 22 "RiverModelModel" "number" "[I", Cond.methodLink RX10 221 yX10_moves, Cond.instanceMethod yX10_moves, Cond.selects RX10 yX10_moves yX10_moves]
def wsX10_run_r2 : List Cond := [Cond.code yX10_moves cX10_moves 8 (some .long), Cond.constantLong RX10 107 (100), Cond.constantLong RX10 219 (10), Cond.methodLink RX10 211 yX10_capacity, Cond.instanceMethod yX10_capacity, Cond.selects RX10 yX10_capacity yX10_capacity, Cond.code yX10_capacity cX10_capacity 3 (some .long), Cond.methodLink RX10 166 yX10_storeAt, Cond.instanceMethod yX10_storeAt, Cond.selects RX10 yX10_storeAt yX10_storeAt, Cond.code yX10_storeAt cX10_storeAt 5 (some .int), Cond.methodLink RX10 215 yX10_most, Cond.instanceMethod yX10_most, Cond.selects RX10 yX10_most yX10_most, Cond.code yX10_most cX10_most 4 (some .long)]
def wsX10_run : List Cond := .code yX10_run cX10_run 3 (some .int) :: ((wsX10_run_r1 ++ wsX10_run_r2) ++ wsX100)
def wsX10_wayTo : List Cond := .code yX10_wayTo cX10_wayTo 5 (some .long) :: ([.fieldLink RX10 28 "RiverModelModel" "m" "[J"] ++ wsX100)
def wsX10_has : List Cond := .code yX10_has cX10_has 3 (some .long) :: ([.constantLong RX10 234 (15), .constantLong RX10 236 (-1), .fieldLink RX10 173 "RiverModelModel" "isBuilt" "Z", .constantLong RX10 238 (-2), .fieldLink RX10 28 "RiverModelModel" "m" "[J", .methodLink RX10 85 yX10_in, .static yX10_in, .initialized RX10, .code yX10_in cX10_in 6 (some .boolean), .methodLink RX10 208 yX10_isStore, .instanceMethod yX10_isStore, .selects RX10 yX10_isStore yX10_isStore, .code yX10_isStore cX10_isStore 2 (some .boolean), .methodLink RX10 166 yX10_storeAt, .instanceMethod yX10_storeAt, .selects RX10 yX10_storeAt yX10_storeAt, .code yX10_storeAt cX10_storeAt 5 (some .int), .fieldLink RX10 163 "RiverModelModel" "items" "I", .fieldLink RX10 13 "RiverModelModel" "kind" "[I", .fieldLink RX10 16 "RiverModelModel" "first" "[I", .methodLink RX10 240 yX10_wayTo, .instanceMethod yX10_wayTo, .selects RX10 yX10_wayTo yX10_wayTo, .code yX10_wayTo cX10_wayTo 5 (some .long)] ++ wsX100)
def wsX10_flow : List Cond := .code yX10_flow cX10_flow 2 (some .long) :: ([.constantLong RX10 194 (39), .constantLong RX10 236 (-1), .fieldLink RX10 173 "RiverModelModel" "isBuilt" "Z", .fieldLink RX10 163 "RiverModelModel" "items" "I", .fieldLink RX10 28 "RiverModelModel" "m" "[J", .constantLong RX10 238 (-2), .methodLink RX10 85 yX10_in, .static yX10_in, .initialized RX10, .code yX10_in cX10_in 6 (some .boolean)] ++ wsX100)
def wsX10_ofKind : List Cond := .code yX10_ofKind cX10_ofKind 4 (some .int) :: ([.fieldLink RX10 163 "RiverModelModel" "items" "I", .fieldLink RX10 173 "RiverModelModel" "isBuilt" "Z", .fieldLink RX10 13 "RiverModelModel" "kind" "[I"] ++ wsX100)
def wsX10_gate : List Cond := .code yX10_gate cX10_gate 4 (some .int) :: ([.constantLong RX10 243 (3), .constantLong RX10 219 (10), .fieldLink RX10 173 "RiverModelModel" "isBuilt" "Z", .fieldLink RX10 28 "RiverModelModel" "m" "[J", .methodLink RX10 85 yX10_in, .static yX10_in, .initialized RX10, .code yX10_in cX10_in 6 (some .boolean), .methodLink RX10 245 yX10_ofKind, .instanceMethod yX10_ofKind, .selects RX10 yX10_ofKind yX10_ofKind, .code yX10_ofKind cX10_ofKind 4 (some .int), .fieldLink RX10 163 "RiverModelModel" "items" "I", .fieldLink RX10 13 "RiverModelModel" "kind" "[I"] ++ wsX100)
def wsX10_book_r1 : List Cond := [Cond.constantLong RX10 196 (5), Cond.constantLong RX10 236 (-1), Cond.fieldLink RX10 173 "RiverModelModel" "isBuilt" "Z", Cond.constantLong RX10 238 (-2), Cond.fieldLink RX10 28 "RiverModelModel" "m" "[J", Cond.methodLink RX10 85 yX10_in, Cond.static yX10_in, Cond.initialized RX10, Cond.code yX10_in cX10_in 6 (some .boolean), Cond.methodLink RX10 240 yX10_wayTo, Cond.instanceMethod yX10_wayTo, Cond.selects RX10 yX10_wayTo yX10_wayTo, Cond.code yX10_wayTo cX10_wayTo 5 (some .long), Cond.methodLink RX10 183 yX10_startOf, Cond.instanceMethod yX10_startOf, Cond.selects RX10 yX10_startOf yX10_startOf, Cond.code yX10_startOf cX10_startOf 4 (some .int), Cond.fieldLink RX10 22 "RiverModelModel" "number" "[I", Cond.methodLink RX10 166 yX10_storeAt, Cond.instanceMethod yX10_storeAt, Cond.selects RX10 yX10_storeAt yX10_storeAt, Cond.code yX10_storeAt cX10_storeAt 5 (some .int), Cond.fieldLink RX10 163 "RiverModelModel" "items" "I", Cond.fieldLink RX10 13 "RiverModelModel" "kind" "[I"]
def wsX10_book_r2 : List Cond := [Cond.fieldLink RX10 16 "RiverModelModel" "first" "[I"]
def wsX10_book : List Cond := .code yX10_book cX10_book 9 (some .long) :: ((wsX10_book_r1 ++ wsX10_book_r2) ++ wsX100)
def wsX10_gauge : List Cond := .code yX10_gauge cX10_gauge 5 (some .int) :: ([.constantLong RX10 243 (3), .constantLong RX10 194 (39), .constantLong RX10 234 (15), .fieldLink RX10 173 "RiverModelModel" "isBuilt" "Z", .fieldLink RX10 163 "RiverModelModel" "items" "I", .fieldLink RX10 38 "RiverModelModel" "gaugeKind" "[I", .fieldLink RX10 41 "RiverModelModel" "gaugeAt" "[I", .fieldLink RX10 44 "RiverModelModel" "seen" "[I", .methodLink RX10 85 yX10_in, .static yX10_in, .initialized RX10, .code yX10_in cX10_in 6 (some .boolean), .methodLink RX10 208 yX10_isStore, .instanceMethod yX10_isStore, .selects RX10 yX10_isStore yX10_isStore, .code yX10_isStore cX10_isStore 2 (some .boolean), .methodLink RX10 166 yX10_storeAt, .instanceMethod yX10_storeAt, .selects RX10 yX10_storeAt yX10_storeAt, .code yX10_storeAt cX10_storeAt 5 (some .int), .fieldLink RX10 13 "RiverModelModel" "kind" "[I", .fieldLink RX10 16 "RiverModelModel" "first" "[I"] ++ wsX100)
def wsX10_isSet : List Cond := .code yX10_isSet cX10_isSet 2 (some .boolean) :: ([.fieldLink RX10 173 "RiverModelModel" "isBuilt" "Z", .fieldLink RX10 38 "RiverModelModel" "gaugeKind" "[I"] ++ wsX100)
def wsX10_reading : List Cond := .code yX10_reading cX10_reading 2 (some .long) :: ([.fieldLink RX10 38 "RiverModelModel" "gaugeKind" "[I", .fieldLink RX10 28 "RiverModelModel" "m" "[J", .fieldLink RX10 41 "RiverModelModel" "gaugeAt" "[I"] ++ wsX100)
def wsX10_reads : List Cond := .code yX10_reads cX10_reads 2 (some .long) :: ([.constantLong RX10 243 (3), .constantLong RX10 236 (-1), .fieldLink RX10 28 "RiverModelModel" "m" "[J", .constantLong RX10 238 (-2), .methodLink RX10 85 yX10_in, .static yX10_in, .initialized RX10, .code yX10_in cX10_in 6 (some .boolean), .methodLink RX10 248 yX10_isSet, .instanceMethod yX10_isSet, .selects RX10 yX10_isSet yX10_isSet, .code yX10_isSet cX10_isSet 2 (some .boolean), .fieldLink RX10 173 "RiverModelModel" "isBuilt" "Z", .fieldLink RX10 38 "RiverModelModel" "gaugeKind" "[I", .methodLink RX10 251 yX10_reading, .instanceMethod yX10_reading, .selects RX10 yX10_reading yX10_reading, .code yX10_reading cX10_reading 2 (some .long), .fieldLink RX10 41 "RiverModelModel" "gaugeAt" "[I"] ++ wsX100)
def wsX10_see : List Cond := .code yX10_see cX10_see 5 (some .int) :: ([.constantLong RX10 243 (3), .constantLong RX10 198 (95), .constantLong RX10 236 (-1), .constantLong RX10 254 (10000000), .fieldLink RX10 44 "RiverModelModel" "seen" "[I", .methodLink RX10 85 yX10_in, .static yX10_in, .initialized RX10, .code yX10_in cX10_in 6 (some .boolean), .methodLink RX10 248 yX10_isSet, .instanceMethod yX10_isSet, .selects RX10 yX10_isSet yX10_isSet, .code yX10_isSet cX10_isSet 2 (some .boolean), .fieldLink RX10 173 "RiverModelModel" "isBuilt" "Z", .fieldLink RX10 38 "RiverModelModel" "gaugeKind" "[I"] ++ wsX100)
def wsX10_ends : List Cond := .code yX10_ends cX10_ends 3 (some .int) :: ([.constantLong RX10 256 (100000), .fieldLink RX10 258 "RiverModelModel" "ends" "I", .methodLink RX10 85 yX10_in, .static yX10_in, .initialized RX10, .code yX10_in cX10_in 6 (some .boolean)] ++ wsX100)
def wsX10_knob : List Cond := .code yX10_knob cX10_knob 7 (some .int) :: ([.constantLong RX10 194 (39), .constantLong RX10 261 (2), .constantLong RX10 99 (1000000), .constantLong RX10 263 (16), .fieldLink RX10 173 "RiverModelModel" "isBuilt" "Z", .fieldLink RX10 163 "RiverModelModel" "items" "I", .fieldLink RX10 22 "RiverModelModel" "number" "[I", .fieldLink RX10 47 "RiverModelModel" "knobItem" "[I", .fieldLink RX10 50 "RiverModelModel" "knobAt" "[I", .fieldLink RX10 53 "RiverModelModel" "knobFrom" "[I", .fieldLink RX10 56 "RiverModelModel" "knobStep" "[I", .fieldLink RX10 59 "RiverModelModel" "knobMany" "[I", .methodLink RX10 85 yX10_in, .static yX10_in, .initialized RX10, .code yX10_in cX10_in 6 (some .boolean)] ++ wsX100)
def wsX10_knobs : List Cond := .code yX10_knobs cX10_knobs 2 (some .int) :: ([.fieldLink RX10 59 "RiverModelModel" "knobMany" "[I"] ++ wsX100)
def wsX10_knobValue : List Cond := .code yX10_knobValue cX10_knobValue 4 (some .int) :: ([.fieldLink RX10 53 "RiverModelModel" "knobFrom" "[I", .fieldLink RX10 56 "RiverModelModel" "knobStep" "[I", .methodLink RX10 265 yX10_knobs, .instanceMethod yX10_knobs, .selects RX10 yX10_knobs yX10_knobs, .initialized RX10, .code yX10_knobs cX10_knobs 2 (some .int), .fieldLink RX10 59 "RiverModelModel" "knobMany" "[I"] ++ wsX100)
def wsX10_lastSeen : List Cond := .code yX10_lastSeen cX10_lastSeen 3 (some .int) :: ([.fieldLink RX10 44 "RiverModelModel" "seen" "[I"] ++ wsX100)
def wsX10_holds_r1 : List Cond := [Cond.fieldLink RX10 59 "RiverModelModel" "knobMany" "[I", Cond.fieldLink RX10 22 "RiverModelModel" "number" "[I", Cond.fieldLink RX10 47 "RiverModelModel" "knobItem" "[I", Cond.fieldLink RX10 50 "RiverModelModel" "knobAt" "[I", Cond.fieldLink RX10 163 "RiverModelModel" "items" "I", Cond.fieldLink RX10 13 "RiverModelModel" "kind" "[I", Cond.fieldLink RX10 44 "RiverModelModel" "seen" "[I", Cond.fieldLink RX10 258 "RiverModelModel" "ends" "I", Cond.methodLink RX10 170 yX10_copies, Cond.instanceMethod yX10_copies, Cond.selects RX10 yX10_copies yX10_copies, Cond.initialized RX10, Cond.code yX10_copies cX10_copies 4 none, Cond.fieldLink RX10 16 "RiverModelModel" "first" "[I", Cond.fieldLink RX10 19 "RiverModelModel" "second" "[I", Cond.methodLink RX10 268 yX10_knobValue, Cond.instanceMethod yX10_knobValue, Cond.selects RX10 yX10_knobValue yX10_knobValue, Cond.code yX10_knobValue cX10_knobValue 4 (some .int), Cond.fieldLink RX10 53 "RiverModelModel" "knobFrom" "[I", Cond.fieldLink RX10 56 "RiverModelModel" "knobStep" "[I", Cond.methodLink RX10 265 yX10_knobs, Cond.instanceMethod yX10_knobs, Cond.selects RX10 yX10_knobs yX10_knobs]
def wsX10_holds_r2 : List Cond := [Cond.code yX10_knobs cX10_knobs 2 (some .int), Cond.methodLink RX10 144 yX10_areWell, Cond.static yX10_areWell, Cond.code yX10_areWell cX10_areWell 4 (some .boolean), Cond.constantLong RX10 99 (1000000), Cond.constantLong RX10 101 (1000), Cond.constantLong RX10 103 (10000), Cond.constantLong RX10 105 (12), Cond.constantLong RX10 107 (100), Cond.methodLink RX10 85 yX10_in, Cond.static yX10_in, Cond.code yX10_in cX10_in 6 (some .boolean), Cond.methodLink RX10 271 yX10_lastSeen, Cond.instanceMethod yX10_lastSeen, Cond.selects RX10 yX10_lastSeen yX10_lastSeen, Cond.code yX10_lastSeen cX10_lastSeen 3 (some .int), Cond.methodLink RX10 274 yX10_asides, Cond.instanceMethod yX10_asides, Cond.selects RX10 yX10_asides yX10_asides, Cond.code yX10_asides cX10_asides 2 none, Cond.fieldLink RX10 32 "RiverModelModel" "aside" "[J", Cond.fieldLink RX10 28 "RiverModelModel" "m" "[J", Cond.methodLink RX10 186 yX10_begins, Cond.instanceMethod yX10_begins]
def wsX10_holds_r3 : List Cond := [Cond.selects RX10 yX10_begins yX10_begins, Cond.code yX10_begins cX10_begins 4 none, Cond.constantLong RX10 204 (224), Cond.constantLong RX10 206 (227), Cond.constantLong RX10 196 (5), Cond.fieldLink RX10 71 "RiverModelModel" "startB" "[I", Cond.methodLink RX10 208 yX10_isStore, Cond.instanceMethod yX10_isStore, Cond.selects RX10 yX10_isStore yX10_isStore, Cond.code yX10_isStore cX10_isStore 2 (some .boolean), Cond.methodLink RX10 166 yX10_storeAt, Cond.instanceMethod yX10_storeAt, Cond.selects RX10 yX10_storeAt yX10_storeAt, Cond.code yX10_storeAt cX10_storeAt 5 (some .int), Cond.methodLink RX10 183 yX10_startOf, Cond.instanceMethod yX10_startOf, Cond.selects RX10 yX10_startOf yX10_startOf, Cond.code yX10_startOf cX10_startOf 4 (some .int), Cond.methodLink RX10 231 yX10_goes, Cond.instanceMethod yX10_goes, Cond.selects RX10 yX10_goes yX10_goes, Cond.code yX10_goes cX10_goes 4 none, Cond.fieldLink RX10 25 "RiverModelModel" "weather" "[I", Cond.methodLink RX10 225 yX10_passes]
def wsX10_holds_r4 : List Cond := [Cond.instanceMethod yX10_passes, Cond.selects RX10 yX10_passes yX10_passes, Cond.code yX10_passes cX10_passes 12 none, Cond.methodLink RX10 221 yX10_moves, Cond.instanceMethod yX10_moves, Cond.selects RX10 yX10_moves yX10_moves, Cond.code yX10_moves cX10_moves 8 (some .long), Cond.constantLong RX10 219 (10), Cond.methodLink RX10 211 yX10_capacity, Cond.instanceMethod yX10_capacity, Cond.selects RX10 yX10_capacity yX10_capacity, Cond.code yX10_capacity cX10_capacity 3 (some .long), Cond.methodLink RX10 215 yX10_most, Cond.instanceMethod yX10_most, Cond.selects RX10 yX10_most yX10_most, Cond.code yX10_most cX10_most 4 (some .long), Cond.methodLink RX10 251 yX10_reading, Cond.instanceMethod yX10_reading, Cond.selects RX10 yX10_reading yX10_reading, Cond.code yX10_reading cX10_reading 2 (some .long), Cond.fieldLink RX10 38 "RiverModelModel" "gaugeKind" "[I", Cond.fieldLink RX10 41 "RiverModelModel" "gaugeAt" "[I", Cond.methodLink RX10 277 yX10_returns, Cond.instanceMethod yX10_returns]
def wsX10_holds_r5 : List Cond := [Cond.selects RX10 yX10_returns yX10_returns, Cond.code yX10_returns cX10_returns 2 none]
def wsX10_holds : List Cond := .code yX10_holds cX10_holds 9 (some .boolean) :: ((wsX10_holds_r1 ++ (wsX10_holds_r2 ++ (wsX10_holds_r3 ++ (wsX10_holds_r4 ++ wsX10_holds_r5)))) ++ wsX100)
def wsX10_fitsTo_r1 : List Cond := [Cond.fieldLink RX10 283 "RiverModelModel" "point" "I", Cond.methodLink RX10 265 yX10_knobs, Cond.instanceMethod yX10_knobs, Cond.selects RX10 yX10_knobs yX10_knobs, Cond.initialized RX10, Cond.code yX10_knobs cX10_knobs 2 (some .int), Cond.fieldLink RX10 59 "RiverModelModel" "knobMany" "[I", Cond.methodLink RX10 280 yX10_holds, Cond.instanceMethod yX10_holds, Cond.selects RX10 yX10_holds yX10_holds, Cond.code yX10_holds cX10_holds 9 (some .boolean), Cond.fieldLink RX10 22 "RiverModelModel" "number" "[I", Cond.fieldLink RX10 47 "RiverModelModel" "knobItem" "[I", Cond.fieldLink RX10 50 "RiverModelModel" "knobAt" "[I", Cond.fieldLink RX10 163 "RiverModelModel" "items" "I", Cond.fieldLink RX10 13 "RiverModelModel" "kind" "[I", Cond.fieldLink RX10 44 "RiverModelModel" "seen" "[I", Cond.fieldLink RX10 258 "RiverModelModel" "ends" "I", Cond.methodLink RX10 170 yX10_copies, Cond.instanceMethod yX10_copies, Cond.selects RX10 yX10_copies yX10_copies, Cond.code yX10_copies cX10_copies 4 none, Cond.fieldLink RX10 16 "RiverModelModel" "first" "[I", Cond.fieldLink RX10 19 "RiverModelModel" "second" "[I"]
def wsX10_fitsTo_r2 : List Cond := [Cond.methodLink RX10 268 yX10_knobValue, Cond.instanceMethod yX10_knobValue, Cond.selects RX10 yX10_knobValue yX10_knobValue, Cond.code yX10_knobValue cX10_knobValue 4 (some .int), Cond.fieldLink RX10 53 "RiverModelModel" "knobFrom" "[I", Cond.fieldLink RX10 56 "RiverModelModel" "knobStep" "[I", Cond.methodLink RX10 144 yX10_areWell, Cond.static yX10_areWell, Cond.code yX10_areWell cX10_areWell 4 (some .boolean), Cond.constantLong RX10 99 (1000000), Cond.constantLong RX10 101 (1000), Cond.constantLong RX10 103 (10000), Cond.constantLong RX10 105 (12), Cond.constantLong RX10 107 (100), Cond.methodLink RX10 85 yX10_in, Cond.static yX10_in, Cond.code yX10_in cX10_in 6 (some .boolean), Cond.methodLink RX10 271 yX10_lastSeen, Cond.instanceMethod yX10_lastSeen, Cond.selects RX10 yX10_lastSeen yX10_lastSeen, Cond.code yX10_lastSeen cX10_lastSeen 3 (some .int), Cond.methodLink RX10 274 yX10_asides, Cond.instanceMethod yX10_asides, Cond.selects RX10 yX10_asides yX10_asides]
def wsX10_fitsTo_r3 : List Cond := [Cond.code yX10_asides cX10_asides 2 none, Cond.fieldLink RX10 32 "RiverModelModel" "aside" "[J", Cond.fieldLink RX10 28 "RiverModelModel" "m" "[J", Cond.methodLink RX10 186 yX10_begins, Cond.instanceMethod yX10_begins, Cond.selects RX10 yX10_begins yX10_begins, Cond.code yX10_begins cX10_begins 4 none, Cond.constantLong RX10 204 (224), Cond.constantLong RX10 206 (227), Cond.constantLong RX10 196 (5), Cond.fieldLink RX10 71 "RiverModelModel" "startB" "[I", Cond.methodLink RX10 208 yX10_isStore, Cond.instanceMethod yX10_isStore, Cond.selects RX10 yX10_isStore yX10_isStore, Cond.code yX10_isStore cX10_isStore 2 (some .boolean), Cond.methodLink RX10 166 yX10_storeAt, Cond.instanceMethod yX10_storeAt, Cond.selects RX10 yX10_storeAt yX10_storeAt, Cond.code yX10_storeAt cX10_storeAt 5 (some .int), Cond.methodLink RX10 183 yX10_startOf, Cond.instanceMethod yX10_startOf, Cond.selects RX10 yX10_startOf yX10_startOf, Cond.code yX10_startOf cX10_startOf 4 (some .int), Cond.methodLink RX10 231 yX10_goes]
def wsX10_fitsTo_r4 : List Cond := [Cond.instanceMethod yX10_goes, Cond.selects RX10 yX10_goes yX10_goes, Cond.code yX10_goes cX10_goes 4 none, Cond.fieldLink RX10 25 "RiverModelModel" "weather" "[I", Cond.methodLink RX10 225 yX10_passes, Cond.instanceMethod yX10_passes, Cond.selects RX10 yX10_passes yX10_passes, Cond.code yX10_passes cX10_passes 12 none, Cond.methodLink RX10 221 yX10_moves, Cond.instanceMethod yX10_moves, Cond.selects RX10 yX10_moves yX10_moves, Cond.code yX10_moves cX10_moves 8 (some .long), Cond.constantLong RX10 219 (10), Cond.methodLink RX10 211 yX10_capacity, Cond.instanceMethod yX10_capacity, Cond.selects RX10 yX10_capacity yX10_capacity, Cond.code yX10_capacity cX10_capacity 3 (some .long), Cond.methodLink RX10 215 yX10_most, Cond.instanceMethod yX10_most, Cond.selects RX10 yX10_most yX10_most, Cond.code yX10_most cX10_most 4 (some .long), Cond.methodLink RX10 251 yX10_reading, Cond.instanceMethod yX10_reading, Cond.selects RX10 yX10_reading yX10_reading]
def wsX10_fitsTo_r5 : List Cond := [Cond.code yX10_reading cX10_reading 2 (some .long), Cond.fieldLink RX10 38 "RiverModelModel" "gaugeKind" "[I", Cond.fieldLink RX10 41 "RiverModelModel" "gaugeAt" "[I", Cond.methodLink RX10 277 yX10_returns, Cond.instanceMethod yX10_returns, Cond.selects RX10 yX10_returns yX10_returns, Cond.code yX10_returns cX10_returns 2 none]
def wsX10_fitsTo : List Cond := .code yX10_fitsTo cX10_fitsTo 5 (some .int) :: ((wsX10_fitsTo_r1 ++ (wsX10_fitsTo_r2 ++ (wsX10_fitsTo_r3 ++ (wsX10_fitsTo_r4 ++ wsX10_fitsTo_r5)))) ++ wsX100)
def wsX10_fits_r1 : List Cond := [Cond.fieldLink RX10 173 "RiverModelModel" "isBuilt" "Z", Cond.methodLink RX10 286 yX10_fitsTo, Cond.instanceMethod yX10_fitsTo, Cond.selects RX10 yX10_fitsTo yX10_fitsTo, Cond.initialized RX10, Cond.code yX10_fitsTo cX10_fitsTo 5 (some .int), Cond.fieldLink RX10 283 "RiverModelModel" "point" "I", Cond.methodLink RX10 265 yX10_knobs, Cond.instanceMethod yX10_knobs, Cond.selects RX10 yX10_knobs yX10_knobs, Cond.code yX10_knobs cX10_knobs 2 (some .int), Cond.fieldLink RX10 59 "RiverModelModel" "knobMany" "[I", Cond.methodLink RX10 280 yX10_holds, Cond.instanceMethod yX10_holds, Cond.selects RX10 yX10_holds yX10_holds, Cond.code yX10_holds cX10_holds 9 (some .boolean), Cond.fieldLink RX10 22 "RiverModelModel" "number" "[I", Cond.fieldLink RX10 47 "RiverModelModel" "knobItem" "[I", Cond.fieldLink RX10 50 "RiverModelModel" "knobAt" "[I", Cond.fieldLink RX10 163 "RiverModelModel" "items" "I", Cond.fieldLink RX10 13 "RiverModelModel" "kind" "[I", Cond.fieldLink RX10 44 "RiverModelModel" "seen" "[I", Cond.fieldLink RX10 258 "RiverModelModel" "ends" "I", Cond.methodLink RX10 170 yX10_copies]
def wsX10_fits_r2 : List Cond := [Cond.instanceMethod yX10_copies, Cond.selects RX10 yX10_copies yX10_copies, Cond.code yX10_copies cX10_copies 4 none, Cond.fieldLink RX10 16 "RiverModelModel" "first" "[I", Cond.fieldLink RX10 19 "RiverModelModel" "second" "[I", Cond.methodLink RX10 268 yX10_knobValue, Cond.instanceMethod yX10_knobValue, Cond.selects RX10 yX10_knobValue yX10_knobValue, Cond.code yX10_knobValue cX10_knobValue 4 (some .int), Cond.fieldLink RX10 53 "RiverModelModel" "knobFrom" "[I", Cond.fieldLink RX10 56 "RiverModelModel" "knobStep" "[I", Cond.methodLink RX10 144 yX10_areWell, Cond.static yX10_areWell, Cond.code yX10_areWell cX10_areWell 4 (some .boolean), Cond.constantLong RX10 99 (1000000), Cond.constantLong RX10 101 (1000), Cond.constantLong RX10 103 (10000), Cond.constantLong RX10 105 (12), Cond.constantLong RX10 107 (100), Cond.methodLink RX10 85 yX10_in, Cond.static yX10_in, Cond.code yX10_in cX10_in 6 (some .boolean), Cond.methodLink RX10 271 yX10_lastSeen, Cond.instanceMethod yX10_lastSeen]
def wsX10_fits_r3 : List Cond := [Cond.selects RX10 yX10_lastSeen yX10_lastSeen, Cond.code yX10_lastSeen cX10_lastSeen 3 (some .int), Cond.methodLink RX10 274 yX10_asides, Cond.instanceMethod yX10_asides, Cond.selects RX10 yX10_asides yX10_asides, Cond.code yX10_asides cX10_asides 2 none, Cond.fieldLink RX10 32 "RiverModelModel" "aside" "[J", Cond.fieldLink RX10 28 "RiverModelModel" "m" "[J", Cond.methodLink RX10 186 yX10_begins, Cond.instanceMethod yX10_begins, Cond.selects RX10 yX10_begins yX10_begins, Cond.code yX10_begins cX10_begins 4 none, Cond.constantLong RX10 204 (224), Cond.constantLong RX10 206 (227), Cond.constantLong RX10 196 (5), Cond.fieldLink RX10 71 "RiverModelModel" "startB" "[I", Cond.methodLink RX10 208 yX10_isStore, Cond.instanceMethod yX10_isStore, Cond.selects RX10 yX10_isStore yX10_isStore, Cond.code yX10_isStore cX10_isStore 2 (some .boolean), Cond.methodLink RX10 166 yX10_storeAt, Cond.instanceMethod yX10_storeAt, Cond.selects RX10 yX10_storeAt yX10_storeAt, Cond.code yX10_storeAt cX10_storeAt 5 (some .int)]
def wsX10_fits_r4 : List Cond := [Cond.methodLink RX10 183 yX10_startOf, Cond.instanceMethod yX10_startOf, Cond.selects RX10 yX10_startOf yX10_startOf, Cond.code yX10_startOf cX10_startOf 4 (some .int), Cond.methodLink RX10 231 yX10_goes, Cond.instanceMethod yX10_goes, Cond.selects RX10 yX10_goes yX10_goes, Cond.code yX10_goes cX10_goes 4 none, Cond.fieldLink RX10 25 "RiverModelModel" "weather" "[I", Cond.methodLink RX10 225 yX10_passes, Cond.instanceMethod yX10_passes, Cond.selects RX10 yX10_passes yX10_passes, Cond.code yX10_passes cX10_passes 12 none, Cond.methodLink RX10 221 yX10_moves, Cond.instanceMethod yX10_moves, Cond.selects RX10 yX10_moves yX10_moves, Cond.code yX10_moves cX10_moves 8 (some .long), Cond.constantLong RX10 219 (10), Cond.methodLink RX10 211 yX10_capacity, Cond.instanceMethod yX10_capacity, Cond.selects RX10 yX10_capacity yX10_capacity, Cond.code yX10_capacity cX10_capacity 3 (some .long), Cond.methodLink RX10 215 yX10_most, Cond.instanceMethod yX10_most]
def wsX10_fits_r5 : List Cond := [Cond.selects RX10 yX10_most yX10_most, Cond.code yX10_most cX10_most 4 (some .long), Cond.methodLink RX10 251 yX10_reading, Cond.instanceMethod yX10_reading, Cond.selects RX10 yX10_reading yX10_reading, Cond.code yX10_reading cX10_reading 2 (some .long), Cond.fieldLink RX10 38 "RiverModelModel" "gaugeKind" "[I", Cond.fieldLink RX10 41 "RiverModelModel" "gaugeAt" "[I", Cond.methodLink RX10 277 yX10_returns, Cond.instanceMethod yX10_returns, Cond.selects RX10 yX10_returns yX10_returns, Cond.code yX10_returns cX10_returns 2 none]
def wsX10_fits : List Cond := .code yX10_fits cX10_fits 1 (some .int) :: ((wsX10_fits_r1 ++ (wsX10_fits_r2 ++ (wsX10_fits_r3 ++ (wsX10_fits_r4 ++ wsX10_fits_r5)))) ++ wsX100)
def wsX10_fit_r1 : List Cond := [Cond.fieldLink RX10 173 "RiverModelModel" "isBuilt" "Z", Cond.fieldLink RX10 59 "RiverModelModel" "knobMany" "[I", Cond.fieldLink RX10 283 "RiverModelModel" "point" "I", Cond.methodLink RX10 85 yX10_in, Cond.static yX10_in, Cond.initialized RX10, Cond.code yX10_in cX10_in 6 (some .boolean), Cond.methodLink RX10 286 yX10_fitsTo, Cond.instanceMethod yX10_fitsTo, Cond.selects RX10 yX10_fitsTo yX10_fitsTo, Cond.code yX10_fitsTo cX10_fitsTo 5 (some .int), Cond.methodLink RX10 265 yX10_knobs, Cond.instanceMethod yX10_knobs, Cond.selects RX10 yX10_knobs yX10_knobs, Cond.code yX10_knobs cX10_knobs 2 (some .int), Cond.methodLink RX10 280 yX10_holds, Cond.instanceMethod yX10_holds, Cond.selects RX10 yX10_holds yX10_holds, Cond.code yX10_holds cX10_holds 9 (some .boolean), Cond.fieldLink RX10 22 "RiverModelModel" "number" "[I", Cond.fieldLink RX10 47 "RiverModelModel" "knobItem" "[I", Cond.fieldLink RX10 50 "RiverModelModel" "knobAt" "[I", Cond.fieldLink RX10 163 "RiverModelModel" "items" "I", Cond.fieldLink RX10 13 "RiverModelModel" "kind" "[I"]
def wsX10_fit_r2 : List Cond := [Cond.fieldLink RX10 44 "RiverModelModel" "seen" "[I", Cond.fieldLink RX10 258 "RiverModelModel" "ends" "I", Cond.methodLink RX10 170 yX10_copies, Cond.instanceMethod yX10_copies, Cond.selects RX10 yX10_copies yX10_copies, Cond.code yX10_copies cX10_copies 4 none, Cond.fieldLink RX10 16 "RiverModelModel" "first" "[I", Cond.fieldLink RX10 19 "RiverModelModel" "second" "[I", Cond.methodLink RX10 268 yX10_knobValue, Cond.instanceMethod yX10_knobValue, Cond.selects RX10 yX10_knobValue yX10_knobValue, Cond.code yX10_knobValue cX10_knobValue 4 (some .int), Cond.fieldLink RX10 53 "RiverModelModel" "knobFrom" "[I", Cond.fieldLink RX10 56 "RiverModelModel" "knobStep" "[I", Cond.methodLink RX10 144 yX10_areWell, Cond.static yX10_areWell, Cond.code yX10_areWell cX10_areWell 4 (some .boolean), Cond.constantLong RX10 99 (1000000), Cond.constantLong RX10 101 (1000), Cond.constantLong RX10 103 (10000), Cond.constantLong RX10 105 (12), Cond.constantLong RX10 107 (100), Cond.methodLink RX10 271 yX10_lastSeen, Cond.instanceMethod yX10_lastSeen]
def wsX10_fit_r3 : List Cond := [Cond.selects RX10 yX10_lastSeen yX10_lastSeen, Cond.code yX10_lastSeen cX10_lastSeen 3 (some .int), Cond.methodLink RX10 274 yX10_asides, Cond.instanceMethod yX10_asides, Cond.selects RX10 yX10_asides yX10_asides, Cond.code yX10_asides cX10_asides 2 none, Cond.fieldLink RX10 32 "RiverModelModel" "aside" "[J", Cond.fieldLink RX10 28 "RiverModelModel" "m" "[J", Cond.methodLink RX10 186 yX10_begins, Cond.instanceMethod yX10_begins, Cond.selects RX10 yX10_begins yX10_begins, Cond.code yX10_begins cX10_begins 4 none, Cond.constantLong RX10 204 (224), Cond.constantLong RX10 206 (227), Cond.constantLong RX10 196 (5), Cond.fieldLink RX10 71 "RiverModelModel" "startB" "[I", Cond.methodLink RX10 208 yX10_isStore, Cond.instanceMethod yX10_isStore, Cond.selects RX10 yX10_isStore yX10_isStore, Cond.code yX10_isStore cX10_isStore 2 (some .boolean), Cond.methodLink RX10 166 yX10_storeAt, Cond.instanceMethod yX10_storeAt, Cond.selects RX10 yX10_storeAt yX10_storeAt, Cond.code yX10_storeAt cX10_storeAt 5 (some .int)]
def wsX10_fit_r4 : List Cond := [Cond.methodLink RX10 183 yX10_startOf, Cond.instanceMethod yX10_startOf, Cond.selects RX10 yX10_startOf yX10_startOf, Cond.code yX10_startOf cX10_startOf 4 (some .int), Cond.methodLink RX10 231 yX10_goes, Cond.instanceMethod yX10_goes, Cond.selects RX10 yX10_goes yX10_goes, Cond.code yX10_goes cX10_goes 4 none, Cond.fieldLink RX10 25 "RiverModelModel" "weather" "[I", Cond.methodLink RX10 225 yX10_passes, Cond.instanceMethod yX10_passes, Cond.selects RX10 yX10_passes yX10_passes, Cond.code yX10_passes cX10_passes 12 none, Cond.methodLink RX10 221 yX10_moves, Cond.instanceMethod yX10_moves, Cond.selects RX10 yX10_moves yX10_moves, Cond.code yX10_moves cX10_moves 8 (some .long), Cond.constantLong RX10 219 (10), Cond.methodLink RX10 211 yX10_capacity, Cond.instanceMethod yX10_capacity, Cond.selects RX10 yX10_capacity yX10_capacity, Cond.code yX10_capacity cX10_capacity 3 (some .long), Cond.methodLink RX10 215 yX10_most, Cond.instanceMethod yX10_most]
def wsX10_fit_r5 : List Cond := [Cond.selects RX10 yX10_most yX10_most, Cond.code yX10_most cX10_most 4 (some .long), Cond.methodLink RX10 251 yX10_reading, Cond.instanceMethod yX10_reading, Cond.selects RX10 yX10_reading yX10_reading, Cond.code yX10_reading cX10_reading 2 (some .long), Cond.fieldLink RX10 38 "RiverModelModel" "gaugeKind" "[I", Cond.fieldLink RX10 41 "RiverModelModel" "gaugeAt" "[I", Cond.methodLink RX10 277 yX10_returns, Cond.instanceMethod yX10_returns, Cond.selects RX10 yX10_returns yX10_returns, Cond.code yX10_returns cX10_returns 2 none]
def wsX10_fit : List Cond := .code yX10_fit cX10_fit 3 (some .int) :: ((wsX10_fit_r1 ++ (wsX10_fit_r2 ++ (wsX10_fit_r3 ++ (wsX10_fit_r4 ++ wsX10_fit_r5)))) ++ wsX100)
def wsX10_take_r1 : List Cond := [Cond.fieldLink RX10 173 "RiverModelModel" "isBuilt" "Z", Cond.methodLink RX10 286 yX10_fitsTo, Cond.instanceMethod yX10_fitsTo, Cond.selects RX10 yX10_fitsTo yX10_fitsTo, Cond.initialized RX10, Cond.code yX10_fitsTo cX10_fitsTo 5 (some .int), Cond.fieldLink RX10 283 "RiverModelModel" "point" "I", Cond.methodLink RX10 265 yX10_knobs, Cond.instanceMethod yX10_knobs, Cond.selects RX10 yX10_knobs yX10_knobs, Cond.code yX10_knobs cX10_knobs 2 (some .int), Cond.fieldLink RX10 59 "RiverModelModel" "knobMany" "[I", Cond.methodLink RX10 280 yX10_holds, Cond.instanceMethod yX10_holds, Cond.selects RX10 yX10_holds yX10_holds, Cond.code yX10_holds cX10_holds 9 (some .boolean), Cond.fieldLink RX10 22 "RiverModelModel" "number" "[I", Cond.fieldLink RX10 47 "RiverModelModel" "knobItem" "[I", Cond.fieldLink RX10 50 "RiverModelModel" "knobAt" "[I", Cond.fieldLink RX10 163 "RiverModelModel" "items" "I", Cond.fieldLink RX10 13 "RiverModelModel" "kind" "[I", Cond.fieldLink RX10 44 "RiverModelModel" "seen" "[I", Cond.fieldLink RX10 258 "RiverModelModel" "ends" "I", Cond.methodLink RX10 170 yX10_copies]
def wsX10_take_r2 : List Cond := [Cond.instanceMethod yX10_copies, Cond.selects RX10 yX10_copies yX10_copies, Cond.code yX10_copies cX10_copies 4 none, Cond.fieldLink RX10 16 "RiverModelModel" "first" "[I", Cond.fieldLink RX10 19 "RiverModelModel" "second" "[I", Cond.methodLink RX10 268 yX10_knobValue, Cond.instanceMethod yX10_knobValue, Cond.selects RX10 yX10_knobValue yX10_knobValue, Cond.code yX10_knobValue cX10_knobValue 4 (some .int), Cond.fieldLink RX10 53 "RiverModelModel" "knobFrom" "[I", Cond.fieldLink RX10 56 "RiverModelModel" "knobStep" "[I", Cond.methodLink RX10 144 yX10_areWell, Cond.static yX10_areWell, Cond.code yX10_areWell cX10_areWell 4 (some .boolean), Cond.constantLong RX10 99 (1000000), Cond.constantLong RX10 101 (1000), Cond.constantLong RX10 103 (10000), Cond.constantLong RX10 105 (12), Cond.constantLong RX10 107 (100), Cond.methodLink RX10 85 yX10_in, Cond.static yX10_in, Cond.code yX10_in cX10_in 6 (some .boolean), Cond.methodLink RX10 271 yX10_lastSeen, Cond.instanceMethod yX10_lastSeen]
def wsX10_take_r3 : List Cond := [Cond.selects RX10 yX10_lastSeen yX10_lastSeen, Cond.code yX10_lastSeen cX10_lastSeen 3 (some .int), Cond.methodLink RX10 274 yX10_asides, Cond.instanceMethod yX10_asides, Cond.selects RX10 yX10_asides yX10_asides, Cond.code yX10_asides cX10_asides 2 none, Cond.fieldLink RX10 32 "RiverModelModel" "aside" "[J", Cond.fieldLink RX10 28 "RiverModelModel" "m" "[J", Cond.methodLink RX10 186 yX10_begins, Cond.instanceMethod yX10_begins, Cond.selects RX10 yX10_begins yX10_begins, Cond.code yX10_begins cX10_begins 4 none, Cond.constantLong RX10 204 (224), Cond.constantLong RX10 206 (227), Cond.constantLong RX10 196 (5), Cond.fieldLink RX10 71 "RiverModelModel" "startB" "[I", Cond.methodLink RX10 208 yX10_isStore, Cond.instanceMethod yX10_isStore, Cond.selects RX10 yX10_isStore yX10_isStore, Cond.code yX10_isStore cX10_isStore 2 (some .boolean), Cond.methodLink RX10 166 yX10_storeAt, Cond.instanceMethod yX10_storeAt, Cond.selects RX10 yX10_storeAt yX10_storeAt, Cond.code yX10_storeAt cX10_storeAt 5 (some .int)]
def wsX10_take_r4 : List Cond := [Cond.methodLink RX10 183 yX10_startOf, Cond.instanceMethod yX10_startOf, Cond.selects RX10 yX10_startOf yX10_startOf, Cond.code yX10_startOf cX10_startOf 4 (some .int), Cond.methodLink RX10 231 yX10_goes, Cond.instanceMethod yX10_goes, Cond.selects RX10 yX10_goes yX10_goes, Cond.code yX10_goes cX10_goes 4 none, Cond.fieldLink RX10 25 "RiverModelModel" "weather" "[I", Cond.methodLink RX10 225 yX10_passes, Cond.instanceMethod yX10_passes, Cond.selects RX10 yX10_passes yX10_passes, Cond.code yX10_passes cX10_passes 12 none, Cond.methodLink RX10 221 yX10_moves, Cond.instanceMethod yX10_moves, Cond.selects RX10 yX10_moves yX10_moves, Cond.code yX10_moves cX10_moves 8 (some .long), Cond.constantLong RX10 219 (10), Cond.methodLink RX10 211 yX10_capacity, Cond.instanceMethod yX10_capacity, Cond.selects RX10 yX10_capacity yX10_capacity, Cond.code yX10_capacity cX10_capacity 3 (some .long), Cond.methodLink RX10 215 yX10_most, Cond.instanceMethod yX10_most]
def wsX10_take_r5 : List Cond := [Cond.selects RX10 yX10_most yX10_most, Cond.code yX10_most cX10_most 4 (some .long), Cond.methodLink RX10 251 yX10_reading, Cond.instanceMethod yX10_reading, Cond.selects RX10 yX10_reading yX10_reading, Cond.code yX10_reading cX10_reading 2 (some .long), Cond.fieldLink RX10 38 "RiverModelModel" "gaugeKind" "[I", Cond.fieldLink RX10 41 "RiverModelModel" "gaugeAt" "[I", Cond.methodLink RX10 277 yX10_returns, Cond.instanceMethod yX10_returns, Cond.selects RX10 yX10_returns yX10_returns, Cond.code yX10_returns cX10_returns 2 none, Cond.methodLink RX10 190 yX10_becomes, Cond.instanceMethod yX10_becomes, Cond.selects RX10 yX10_becomes yX10_becomes, Cond.code yX10_becomes cX10_becomes 3 none, Cond.fieldLink RX10 177 "RiverModelModel" "isSwapped" "Z", Cond.fieldLink RX10 180 "RiverModelModel" "keptMany" "I"]
def wsX10_take : List Cond := .code yX10_take cX10_take 2 (some .int) :: ((wsX10_take_r1 ++ (wsX10_take_r2 ++ (wsX10_take_r3 ++ (wsX10_take_r4 ++ wsX10_take_r5)))) ++ wsX100)
def wsX10_weigh : List Cond := .code yX10_weigh cX10_weigh 4 (some .int) :: ([.constantLong RX10 243 (3), .constantLong RX10 107 (100), .fieldLink RX10 62 "RiverModelModel" "weight" "[I", .methodLink RX10 85 yX10_in, .static yX10_in, .initialized RX10, .code yX10_in cX10_in 6 (some .boolean)] ++ wsX100)
def wsX10_rain : List Cond := .code yX10_rain cX10_rain 5 (some .int) :: ([.constantLong RX10 243 (3), .constantLong RX10 289 (23), .constantLong RX10 103 (10000), .fieldLink RX10 65 "RiverModelModel" "ahead" "[I", .methodLink RX10 85 yX10_in, .static yX10_in, .initialized RX10, .code yX10_in cX10_in 6 (some .boolean)] ++ wsX100)
def wsX10_peakBy_r1 : List Cond := [Cond.constantLong RX10 236 (-1), Cond.fieldLink RX10 28 "RiverModelModel" "m" "[J", Cond.fieldLink RX10 25 "RiverModelModel" "weather" "[I", Cond.fieldLink RX10 65 "RiverModelModel" "ahead" "[I", Cond.methodLink RX10 274 yX10_asides, Cond.instanceMethod yX10_asides, Cond.selects RX10 yX10_asides yX10_asides, Cond.initialized RX10, Cond.code yX10_asides cX10_asides 2 none, Cond.fieldLink RX10 32 "RiverModelModel" "aside" "[J", Cond.methodLink RX10 225 yX10_passes, Cond.instanceMethod yX10_passes, Cond.selects RX10 yX10_passes yX10_passes, Cond.code yX10_passes cX10_passes 12 none, Cond.fieldLink RX10 163 "RiverModelModel" "items" "I", Cond.fieldLink RX10 13 "RiverModelModel" "kind" "[I", Cond.fieldLink RX10 16 "RiverModelModel" "first" "[I", Cond.fieldLink RX10 19 "RiverModelModel" "second" "[I", Cond.fieldLink RX10 22 "RiverModelModel" "number" "[I", Cond.methodLink RX10 221 yX10_moves, Cond.instanceMethod yX10_moves, Cond.selects RX10 yX10_moves yX10_moves, Cond.code yX10_moves cX10_moves 8 (some .long), Cond.constantLong RX10 107 (100)]
def wsX10_peakBy_r2 : List Cond := [Cond.constantLong RX10 219 (10), Cond.methodLink RX10 211 yX10_capacity, Cond.instanceMethod yX10_capacity, Cond.selects RX10 yX10_capacity yX10_capacity, Cond.code yX10_capacity cX10_capacity 3 (some .long), Cond.methodLink RX10 166 yX10_storeAt, Cond.instanceMethod yX10_storeAt, Cond.selects RX10 yX10_storeAt yX10_storeAt, Cond.code yX10_storeAt cX10_storeAt 5 (some .int), Cond.methodLink RX10 215 yX10_most, Cond.instanceMethod yX10_most, Cond.selects RX10 yX10_most yX10_most, Cond.code yX10_most cX10_most 4 (some .long), Cond.methodLink RX10 251 yX10_reading, Cond.instanceMethod yX10_reading, Cond.selects RX10 yX10_reading yX10_reading, Cond.code yX10_reading cX10_reading 2 (some .long), Cond.fieldLink RX10 38 "RiverModelModel" "gaugeKind" "[I", Cond.fieldLink RX10 41 "RiverModelModel" "gaugeAt" "[I", Cond.methodLink RX10 277 yX10_returns, Cond.instanceMethod yX10_returns, Cond.selects RX10 yX10_returns yX10_returns, Cond.code yX10_returns cX10_returns 2 none]
def wsX10_peakBy : List Cond := .code yX10_peakBy cX10_peakBy 9 (some .long) :: ((wsX10_peakBy_r1 ++ wsX10_peakBy_r2) ++ wsX100)
def wsX10_canSee : List Cond := .code yX10_canSee cX10_canSee 3 (some .boolean) :: ([.fieldLink RX10 28 "RiverModelModel" "m" "[J", .constantLong RX10 229 (96), .methodLink RX10 248 yX10_isSet, .instanceMethod yX10_isSet, .selects RX10 yX10_isSet yX10_isSet, .initialized RX10, .code yX10_isSet cX10_isSet 2 (some .boolean), .fieldLink RX10 173 "RiverModelModel" "isBuilt" "Z", .fieldLink RX10 38 "RiverModelModel" "gaugeKind" "[I"] ++ wsX100)
def wsX10_chanceOf_r1 : List Cond := [Cond.fieldLink RX10 62 "RiverModelModel" "weight" "[I", Cond.methodLink RX10 291 yX10_peakBy, Cond.instanceMethod yX10_peakBy, Cond.selects RX10 yX10_peakBy yX10_peakBy, Cond.initialized RX10, Cond.code yX10_peakBy cX10_peakBy 9 (some .long), Cond.constantLong RX10 236 (-1), Cond.fieldLink RX10 28 "RiverModelModel" "m" "[J", Cond.fieldLink RX10 25 "RiverModelModel" "weather" "[I", Cond.fieldLink RX10 65 "RiverModelModel" "ahead" "[I", Cond.methodLink RX10 274 yX10_asides, Cond.instanceMethod yX10_asides, Cond.selects RX10 yX10_asides yX10_asides, Cond.code yX10_asides cX10_asides 2 none, Cond.fieldLink RX10 32 "RiverModelModel" "aside" "[J", Cond.methodLink RX10 225 yX10_passes, Cond.instanceMethod yX10_passes, Cond.selects RX10 yX10_passes yX10_passes, Cond.code yX10_passes cX10_passes 12 none, Cond.fieldLink RX10 163 "RiverModelModel" "items" "I", Cond.fieldLink RX10 13 "RiverModelModel" "kind" "[I", Cond.fieldLink RX10 16 "RiverModelModel" "first" "[I", Cond.fieldLink RX10 19 "RiverModelModel" "second" "[I", Cond.fieldLink RX10 22 "RiverModelModel" "number" "[I"]
def wsX10_chanceOf_r2 : List Cond := [Cond.methodLink RX10 221 yX10_moves, Cond.instanceMethod yX10_moves, Cond.selects RX10 yX10_moves yX10_moves, Cond.code yX10_moves cX10_moves 8 (some .long), Cond.constantLong RX10 107 (100), Cond.constantLong RX10 219 (10), Cond.methodLink RX10 211 yX10_capacity, Cond.instanceMethod yX10_capacity, Cond.selects RX10 yX10_capacity yX10_capacity, Cond.code yX10_capacity cX10_capacity 3 (some .long), Cond.methodLink RX10 166 yX10_storeAt, Cond.instanceMethod yX10_storeAt, Cond.selects RX10 yX10_storeAt yX10_storeAt, Cond.code yX10_storeAt cX10_storeAt 5 (some .int), Cond.methodLink RX10 215 yX10_most, Cond.instanceMethod yX10_most, Cond.selects RX10 yX10_most yX10_most, Cond.code yX10_most cX10_most 4 (some .long), Cond.methodLink RX10 251 yX10_reading, Cond.instanceMethod yX10_reading, Cond.selects RX10 yX10_reading yX10_reading, Cond.code yX10_reading cX10_reading 2 (some .long), Cond.fieldLink RX10 38 "RiverModelModel" "gaugeKind" "[I", Cond.fieldLink RX10 41 "RiverModelModel" "gaugeAt" "[I"]
def wsX10_chanceOf_r3 : List Cond := [Cond.methodLink RX10 277 yX10_returns, Cond.instanceMethod yX10_returns, Cond.selects RX10 yX10_returns yX10_returns, Cond.code yX10_returns cX10_returns 2 none]
def wsX10_chanceOf : List Cond := .code yX10_chanceOf cX10_chanceOf 7 (some .int) :: ((wsX10_chanceOf_r1 ++ (wsX10_chanceOf_r2 ++ wsX10_chanceOf_r3)) ++ wsX100)
def wsX10_chance_r1 : List Cond := [Cond.constantLong RX10 243 (3), Cond.constantLong RX10 295 (24), Cond.methodLink RX10 85 yX10_in, Cond.static yX10_in, Cond.initialized RX10, Cond.code yX10_in cX10_in 6 (some .boolean), Cond.methodLink RX10 297 yX10_canSee, Cond.instanceMethod yX10_canSee, Cond.selects RX10 yX10_canSee yX10_canSee, Cond.code yX10_canSee cX10_canSee 3 (some .boolean), Cond.fieldLink RX10 28 "RiverModelModel" "m" "[J", Cond.constantLong RX10 229 (96), Cond.methodLink RX10 248 yX10_isSet, Cond.instanceMethod yX10_isSet, Cond.selects RX10 yX10_isSet yX10_isSet, Cond.code yX10_isSet cX10_isSet 2 (some .boolean), Cond.fieldLink RX10 173 "RiverModelModel" "isBuilt" "Z", Cond.fieldLink RX10 38 "RiverModelModel" "gaugeKind" "[I", Cond.methodLink RX10 301 yX10_chanceOf, Cond.instanceMethod yX10_chanceOf, Cond.selects RX10 yX10_chanceOf yX10_chanceOf, Cond.code yX10_chanceOf cX10_chanceOf 7 (some .int), Cond.fieldLink RX10 62 "RiverModelModel" "weight" "[I", Cond.methodLink RX10 291 yX10_peakBy]
def wsX10_chance_r2 : List Cond := [Cond.instanceMethod yX10_peakBy, Cond.selects RX10 yX10_peakBy yX10_peakBy, Cond.code yX10_peakBy cX10_peakBy 9 (some .long), Cond.constantLong RX10 236 (-1), Cond.fieldLink RX10 25 "RiverModelModel" "weather" "[I", Cond.fieldLink RX10 65 "RiverModelModel" "ahead" "[I", Cond.methodLink RX10 274 yX10_asides, Cond.instanceMethod yX10_asides, Cond.selects RX10 yX10_asides yX10_asides, Cond.code yX10_asides cX10_asides 2 none, Cond.fieldLink RX10 32 "RiverModelModel" "aside" "[J", Cond.methodLink RX10 225 yX10_passes, Cond.instanceMethod yX10_passes, Cond.selects RX10 yX10_passes yX10_passes, Cond.code yX10_passes cX10_passes 12 none, Cond.fieldLink RX10 163 "RiverModelModel" "items" "I", Cond.fieldLink RX10 13 "RiverModelModel" "kind" "[I", Cond.fieldLink RX10 16 "RiverModelModel" "first" "[I", Cond.fieldLink RX10 19 "RiverModelModel" "second" "[I", Cond.fieldLink RX10 22 "RiverModelModel" "number" "[I", Cond.methodLink RX10 221 yX10_moves, Cond.instanceMethod yX10_moves, Cond.selects RX10 yX10_moves yX10_moves, Cond.code yX10_moves cX10_moves 8 (some .long)]
def wsX10_chance_r3 : List Cond := [Cond.constantLong RX10 107 (100), Cond.constantLong RX10 219 (10), Cond.methodLink RX10 211 yX10_capacity, Cond.instanceMethod yX10_capacity, Cond.selects RX10 yX10_capacity yX10_capacity, Cond.code yX10_capacity cX10_capacity 3 (some .long), Cond.methodLink RX10 166 yX10_storeAt, Cond.instanceMethod yX10_storeAt, Cond.selects RX10 yX10_storeAt yX10_storeAt, Cond.code yX10_storeAt cX10_storeAt 5 (some .int), Cond.methodLink RX10 215 yX10_most, Cond.instanceMethod yX10_most, Cond.selects RX10 yX10_most yX10_most, Cond.code yX10_most cX10_most 4 (some .long), Cond.methodLink RX10 251 yX10_reading, Cond.instanceMethod yX10_reading, Cond.selects RX10 yX10_reading yX10_reading, Cond.code yX10_reading cX10_reading 2 (some .long), Cond.fieldLink RX10 41 "RiverModelModel" "gaugeAt" "[I", Cond.methodLink RX10 277 yX10_returns, Cond.instanceMethod yX10_returns, Cond.selects RX10 yX10_returns yX10_returns, Cond.code yX10_returns cX10_returns 2 none]
def wsX10_chance : List Cond := .code yX10_chance cX10_chance 5 (some .int) :: ((wsX10_chance_r1 ++ (wsX10_chance_r2 ++ wsX10_chance_r3)) ++ wsX100)
def wsX10_warn_r1 : List Cond := [Cond.constantLong RX10 243 (3), Cond.constantLong RX10 295 (24), Cond.constantLong RX10 107 (100), Cond.fieldLink RX10 62 "RiverModelModel" "weight" "[I", Cond.fieldLink RX10 68 "RiverModelModel" "booked" "[I", Cond.methodLink RX10 85 yX10_in, Cond.static yX10_in, Cond.initialized RX10, Cond.code yX10_in cX10_in 6 (some .boolean), Cond.methodLink RX10 297 yX10_canSee, Cond.instanceMethod yX10_canSee, Cond.selects RX10 yX10_canSee yX10_canSee, Cond.code yX10_canSee cX10_canSee 3 (some .boolean), Cond.fieldLink RX10 28 "RiverModelModel" "m" "[J", Cond.constantLong RX10 229 (96), Cond.methodLink RX10 248 yX10_isSet, Cond.instanceMethod yX10_isSet, Cond.selects RX10 yX10_isSet yX10_isSet, Cond.code yX10_isSet cX10_isSet 2 (some .boolean), Cond.fieldLink RX10 173 "RiverModelModel" "isBuilt" "Z", Cond.fieldLink RX10 38 "RiverModelModel" "gaugeKind" "[I", Cond.methodLink RX10 301 yX10_chanceOf, Cond.instanceMethod yX10_chanceOf, Cond.selects RX10 yX10_chanceOf yX10_chanceOf]
def wsX10_warn_r2 : List Cond := [Cond.code yX10_chanceOf cX10_chanceOf 7 (some .int), Cond.methodLink RX10 291 yX10_peakBy, Cond.instanceMethod yX10_peakBy, Cond.selects RX10 yX10_peakBy yX10_peakBy, Cond.code yX10_peakBy cX10_peakBy 9 (some .long), Cond.constantLong RX10 236 (-1), Cond.fieldLink RX10 25 "RiverModelModel" "weather" "[I", Cond.fieldLink RX10 65 "RiverModelModel" "ahead" "[I", Cond.methodLink RX10 274 yX10_asides, Cond.instanceMethod yX10_asides, Cond.selects RX10 yX10_asides yX10_asides, Cond.code yX10_asides cX10_asides 2 none, Cond.fieldLink RX10 32 "RiverModelModel" "aside" "[J", Cond.methodLink RX10 225 yX10_passes, Cond.instanceMethod yX10_passes, Cond.selects RX10 yX10_passes yX10_passes, Cond.code yX10_passes cX10_passes 12 none, Cond.fieldLink RX10 163 "RiverModelModel" "items" "I", Cond.fieldLink RX10 13 "RiverModelModel" "kind" "[I", Cond.fieldLink RX10 16 "RiverModelModel" "first" "[I", Cond.fieldLink RX10 19 "RiverModelModel" "second" "[I", Cond.fieldLink RX10 22 "RiverModelModel" "number" "[I", Cond.methodLink RX10 221 yX10_moves, Cond.instanceMethod yX10_moves]
def wsX10_warn_r3 : List Cond := [Cond.selects RX10 yX10_moves yX10_moves, Cond.code yX10_moves cX10_moves 8 (some .long), Cond.constantLong RX10 219 (10), Cond.methodLink RX10 211 yX10_capacity, Cond.instanceMethod yX10_capacity, Cond.selects RX10 yX10_capacity yX10_capacity, Cond.code yX10_capacity cX10_capacity 3 (some .long), Cond.methodLink RX10 166 yX10_storeAt, Cond.instanceMethod yX10_storeAt, Cond.selects RX10 yX10_storeAt yX10_storeAt, Cond.code yX10_storeAt cX10_storeAt 5 (some .int), Cond.methodLink RX10 215 yX10_most, Cond.instanceMethod yX10_most, Cond.selects RX10 yX10_most yX10_most, Cond.code yX10_most cX10_most 4 (some .long), Cond.methodLink RX10 251 yX10_reading, Cond.instanceMethod yX10_reading, Cond.selects RX10 yX10_reading yX10_reading, Cond.code yX10_reading cX10_reading 2 (some .long), Cond.fieldLink RX10 41 "RiverModelModel" "gaugeAt" "[I", Cond.methodLink RX10 277 yX10_returns, Cond.instanceMethod yX10_returns, Cond.selects RX10 yX10_returns yX10_returns, Cond.code yX10_returns cX10_returns 2 none]
def wsX10_warn : List Cond := .code yX10_warn cX10_warn 9 (some .int) :: ((wsX10_warn_r1 ++ (wsX10_warn_r2 ++ wsX10_warn_r3)) ++ wsX100)
def wsX10_booked : List Cond := .code yX10_booked cX10_booked 2 (some .int) :: ([.constantLong RX10 243 (3), .fieldLink RX10 68 "RiverModelModel" "booked" "[I", .methodLink RX10 85 yX10_in, .static yX10_in, .initialized RX10, .code yX10_in cX10_in 6 (some .boolean)] ++ wsX100)
def wsX10_peak_r1 : List Cond := [Cond.constantLong RX10 243 (3), Cond.constantLong RX10 295 (24), Cond.constantLong RX10 236 (-1), Cond.constantLong RX10 238 (-2), Cond.methodLink RX10 85 yX10_in, Cond.static yX10_in, Cond.initialized RX10, Cond.code yX10_in cX10_in 6 (some .boolean), Cond.methodLink RX10 297 yX10_canSee, Cond.instanceMethod yX10_canSee, Cond.selects RX10 yX10_canSee yX10_canSee, Cond.code yX10_canSee cX10_canSee 3 (some .boolean), Cond.fieldLink RX10 28 "RiverModelModel" "m" "[J", Cond.constantLong RX10 229 (96), Cond.methodLink RX10 248 yX10_isSet, Cond.instanceMethod yX10_isSet, Cond.selects RX10 yX10_isSet yX10_isSet, Cond.code yX10_isSet cX10_isSet 2 (some .boolean), Cond.fieldLink RX10 173 "RiverModelModel" "isBuilt" "Z", Cond.fieldLink RX10 38 "RiverModelModel" "gaugeKind" "[I", Cond.methodLink RX10 291 yX10_peakBy, Cond.instanceMethod yX10_peakBy, Cond.selects RX10 yX10_peakBy yX10_peakBy, Cond.code yX10_peakBy cX10_peakBy 9 (some .long)]
def wsX10_peak_r2 : List Cond := [Cond.fieldLink RX10 25 "RiverModelModel" "weather" "[I", Cond.fieldLink RX10 65 "RiverModelModel" "ahead" "[I", Cond.methodLink RX10 274 yX10_asides, Cond.instanceMethod yX10_asides, Cond.selects RX10 yX10_asides yX10_asides, Cond.code yX10_asides cX10_asides 2 none, Cond.fieldLink RX10 32 "RiverModelModel" "aside" "[J", Cond.methodLink RX10 225 yX10_passes, Cond.instanceMethod yX10_passes, Cond.selects RX10 yX10_passes yX10_passes, Cond.code yX10_passes cX10_passes 12 none, Cond.fieldLink RX10 163 "RiverModelModel" "items" "I", Cond.fieldLink RX10 13 "RiverModelModel" "kind" "[I", Cond.fieldLink RX10 16 "RiverModelModel" "first" "[I", Cond.fieldLink RX10 19 "RiverModelModel" "second" "[I", Cond.fieldLink RX10 22 "RiverModelModel" "number" "[I", Cond.methodLink RX10 221 yX10_moves, Cond.instanceMethod yX10_moves, Cond.selects RX10 yX10_moves yX10_moves, Cond.code yX10_moves cX10_moves 8 (some .long), Cond.constantLong RX10 107 (100), Cond.constantLong RX10 219 (10), Cond.methodLink RX10 211 yX10_capacity, Cond.instanceMethod yX10_capacity]
def wsX10_peak_r3 : List Cond := [Cond.selects RX10 yX10_capacity yX10_capacity, Cond.code yX10_capacity cX10_capacity 3 (some .long), Cond.methodLink RX10 166 yX10_storeAt, Cond.instanceMethod yX10_storeAt, Cond.selects RX10 yX10_storeAt yX10_storeAt, Cond.code yX10_storeAt cX10_storeAt 5 (some .int), Cond.methodLink RX10 215 yX10_most, Cond.instanceMethod yX10_most, Cond.selects RX10 yX10_most yX10_most, Cond.code yX10_most cX10_most 4 (some .long), Cond.methodLink RX10 251 yX10_reading, Cond.instanceMethod yX10_reading, Cond.selects RX10 yX10_reading yX10_reading, Cond.code yX10_reading cX10_reading 2 (some .long), Cond.fieldLink RX10 41 "RiverModelModel" "gaugeAt" "[I", Cond.methodLink RX10 277 yX10_returns, Cond.instanceMethod yX10_returns, Cond.selects RX10 yX10_returns yX10_returns, Cond.code yX10_returns cX10_returns 2 none]
def wsX10_peak : List Cond := .code yX10_peak cX10_peak 4 (some .long) :: ((wsX10_peak_r1 ++ (wsX10_peak_r2 ++ wsX10_peak_r3)) ++ wsX100)
def wsX10_byOpenings_r1 : List Cond := [Cond.constantLong RX10 236 (-1), Cond.fieldLink RX10 28 "RiverModelModel" "m" "[J", Cond.constantLong RX10 261 (2), Cond.methodLink RX10 274 yX10_asides, Cond.instanceMethod yX10_asides, Cond.selects RX10 yX10_asides yX10_asides, Cond.initialized RX10, Cond.code yX10_asides cX10_asides 2 none, Cond.fieldLink RX10 32 "RiverModelModel" "aside" "[J", Cond.methodLink RX10 231 yX10_goes, Cond.instanceMethod yX10_goes, Cond.selects RX10 yX10_goes yX10_goes, Cond.code yX10_goes cX10_goes 4 none, Cond.fieldLink RX10 25 "RiverModelModel" "weather" "[I", Cond.methodLink RX10 225 yX10_passes, Cond.instanceMethod yX10_passes, Cond.selects RX10 yX10_passes yX10_passes, Cond.code yX10_passes cX10_passes 12 none, Cond.fieldLink RX10 163 "RiverModelModel" "items" "I", Cond.fieldLink RX10 13 "RiverModelModel" "kind" "[I", Cond.fieldLink RX10 16 "RiverModelModel" "first" "[I", Cond.fieldLink RX10 19 "RiverModelModel" "second" "[I", Cond.fieldLink RX10 22 "RiverModelModel" "number" "[I", Cond.methodLink RX10 221 yX10_moves]
def wsX10_byOpenings_r2 : List Cond := [Cond.instanceMethod yX10_moves, Cond.selects RX10 yX10_moves yX10_moves, Cond.code yX10_moves cX10_moves 8 (some .long), Cond.constantLong RX10 107 (100), Cond.constantLong RX10 219 (10), Cond.methodLink RX10 211 yX10_capacity, Cond.instanceMethod yX10_capacity, Cond.selects RX10 yX10_capacity yX10_capacity, Cond.code yX10_capacity cX10_capacity 3 (some .long), Cond.methodLink RX10 166 yX10_storeAt, Cond.instanceMethod yX10_storeAt, Cond.selects RX10 yX10_storeAt yX10_storeAt, Cond.code yX10_storeAt cX10_storeAt 5 (some .int), Cond.methodLink RX10 215 yX10_most, Cond.instanceMethod yX10_most, Cond.selects RX10 yX10_most yX10_most, Cond.code yX10_most cX10_most 4 (some .long), Cond.methodLink RX10 251 yX10_reading, Cond.instanceMethod yX10_reading, Cond.selects RX10 yX10_reading yX10_reading, Cond.code yX10_reading cX10_reading 2 (some .long), Cond.fieldLink RX10 38 "RiverModelModel" "gaugeKind" "[I", Cond.fieldLink RX10 41 "RiverModelModel" "gaugeAt" "[I", Cond.methodLink RX10 277 yX10_returns]
def wsX10_byOpenings_r3 : List Cond := [Cond.instanceMethod yX10_returns, Cond.selects RX10 yX10_returns yX10_returns, Cond.code yX10_returns cX10_returns 2 none]
def wsX10_byOpenings : List Cond := .code yX10_byOpenings cX10_byOpenings 14 (some .long) :: ((wsX10_byOpenings_r1 ++ (wsX10_byOpenings_r2 ++ wsX10_byOpenings_r3)) ++ wsX100)
def wsX10_best_r1 : List Cond := [Cond.constantLong RX10 243 (3), Cond.constantLong RX10 305 (6), Cond.constantLong RX10 234 (15), Cond.constantLong RX10 236 (-1), Cond.constantLong RX10 238 (-2), Cond.constantLong RX10 311 (-4), Cond.constantLong RX10 261 (2), Cond.methodLink RX10 85 yX10_in, Cond.static yX10_in, Cond.initialized RX10, Cond.code yX10_in cX10_in 6 (some .boolean), Cond.methodLink RX10 297 yX10_canSee, Cond.instanceMethod yX10_canSee, Cond.selects RX10 yX10_canSee yX10_canSee, Cond.code yX10_canSee cX10_canSee 3 (some .boolean), Cond.fieldLink RX10 28 "RiverModelModel" "m" "[J", Cond.constantLong RX10 229 (96), Cond.methodLink RX10 248 yX10_isSet, Cond.instanceMethod yX10_isSet, Cond.selects RX10 yX10_isSet yX10_isSet, Cond.code yX10_isSet cX10_isSet 2 (some .boolean), Cond.fieldLink RX10 173 "RiverModelModel" "isBuilt" "Z", Cond.fieldLink RX10 38 "RiverModelModel" "gaugeKind" "[I", Cond.methodLink RX10 245 yX10_ofKind]
def wsX10_best_r2 : List Cond := [Cond.instanceMethod yX10_ofKind, Cond.selects RX10 yX10_ofKind yX10_ofKind, Cond.code yX10_ofKind cX10_ofKind 4 (some .int), Cond.fieldLink RX10 163 "RiverModelModel" "items" "I", Cond.fieldLink RX10 13 "RiverModelModel" "kind" "[I", Cond.methodLink RX10 208 yX10_isStore, Cond.instanceMethod yX10_isStore, Cond.selects RX10 yX10_isStore yX10_isStore, Cond.code yX10_isStore cX10_isStore 2 (some .boolean), Cond.methodLink RX10 166 yX10_storeAt, Cond.instanceMethod yX10_storeAt, Cond.selects RX10 yX10_storeAt yX10_storeAt, Cond.code yX10_storeAt cX10_storeAt 5 (some .int), Cond.fieldLink RX10 16 "RiverModelModel" "first" "[I", Cond.methodLink RX10 307 yX10_byOpenings, Cond.instanceMethod yX10_byOpenings, Cond.selects RX10 yX10_byOpenings yX10_byOpenings, Cond.code yX10_byOpenings cX10_byOpenings 14 (some .long), Cond.methodLink RX10 274 yX10_asides, Cond.instanceMethod yX10_asides, Cond.selects RX10 yX10_asides yX10_asides, Cond.code yX10_asides cX10_asides 2 none, Cond.fieldLink RX10 32 "RiverModelModel" "aside" "[J", Cond.methodLink RX10 231 yX10_goes]
def wsX10_best_r3 : List Cond := [Cond.instanceMethod yX10_goes, Cond.selects RX10 yX10_goes yX10_goes, Cond.code yX10_goes cX10_goes 4 none, Cond.fieldLink RX10 25 "RiverModelModel" "weather" "[I", Cond.methodLink RX10 225 yX10_passes, Cond.instanceMethod yX10_passes, Cond.selects RX10 yX10_passes yX10_passes, Cond.code yX10_passes cX10_passes 12 none, Cond.fieldLink RX10 19 "RiverModelModel" "second" "[I", Cond.fieldLink RX10 22 "RiverModelModel" "number" "[I", Cond.methodLink RX10 221 yX10_moves, Cond.instanceMethod yX10_moves, Cond.selects RX10 yX10_moves yX10_moves, Cond.code yX10_moves cX10_moves 8 (some .long), Cond.constantLong RX10 107 (100), Cond.constantLong RX10 219 (10), Cond.methodLink RX10 211 yX10_capacity, Cond.instanceMethod yX10_capacity, Cond.selects RX10 yX10_capacity yX10_capacity, Cond.code yX10_capacity cX10_capacity 3 (some .long), Cond.methodLink RX10 215 yX10_most, Cond.instanceMethod yX10_most, Cond.selects RX10 yX10_most yX10_most, Cond.code yX10_most cX10_most 4 (some .long)]
def wsX10_best_r4 : List Cond := [Cond.methodLink RX10 251 yX10_reading, Cond.instanceMethod yX10_reading, Cond.selects RX10 yX10_reading yX10_reading, Cond.code yX10_reading cX10_reading 2 (some .long), Cond.fieldLink RX10 41 "RiverModelModel" "gaugeAt" "[I", Cond.methodLink RX10 277 yX10_returns, Cond.instanceMethod yX10_returns, Cond.selects RX10 yX10_returns yX10_returns, Cond.code yX10_returns cX10_returns 2 none]
def wsX10_best : List Cond := .code yX10_best cX10_best 14 (some .long) :: ((wsX10_best_r1 ++ (wsX10_best_r2 ++ (wsX10_best_r3 ++ wsX10_best_r4))) ++ wsX100)
def wsX10_swap_r1 : List Cond := [Cond.constantLong RX10 194 (39), Cond.fieldLink RX10 173 "RiverModelModel" "isBuilt" "Z", Cond.fieldLink RX10 163 "RiverModelModel" "items" "I", Cond.fieldLink RX10 13 "RiverModelModel" "kind" "[I", Cond.fieldLink RX10 16 "RiverModelModel" "first" "[I", Cond.fieldLink RX10 109 "RiverModelModel" "end" "I", Cond.fieldLink RX10 89 "RiverModelModel" "length" "I", Cond.fieldLink RX10 125 "RiverModelModel" "readKind" "I", Cond.fieldLink RX10 135 "RiverModelModel" "readFirst" "I", Cond.fieldLink RX10 177 "RiverModelModel" "isSwapped" "Z", Cond.methodLink RX10 85 yX10_in, Cond.static yX10_in, Cond.initialized RX10, Cond.code yX10_in cX10_in 6 (some .boolean), Cond.methodLink RX10 151 yX10_readsItem, Cond.instanceMethod yX10_readsItem, Cond.selects RX10 yX10_readsItem yX10_readsItem, Cond.code yX10_readsItem cX10_readsItem 8 (some .boolean), Cond.fieldLink RX10 138 "RiverModelModel" "readSecond" "I", Cond.fieldLink RX10 74 "RiverModelModel" "readNumber" "[I", Cond.methodLink RX10 112 yX10_byteAt, Cond.instanceMethod yX10_byteAt, Cond.selects RX10 yX10_byteAt yX10_byteAt, Cond.code yX10_byteAt cX10_byteAt 2 (some .int)]
def wsX10_swap_r2 : List Cond := [Cond.fieldLink RX10 7 "RiverModelModel" "text" "[I", Cond.methodLink RX10 128 yX10_shape, Cond.static yX10_shape, Cond.code yX10_shape cX10_shape 1 (some .int), Cond.methodLink RX10 131 yX10_isName, Cond.static yX10_isName, Cond.code yX10_isName cX10_isName 1 (some .boolean), Cond.constantLong RX10 95 (97), Cond.constantLong RX10 97 (112), Cond.methodLink RX10 141 yX10_readsNumber, Cond.instanceMethod yX10_readsNumber, Cond.selects RX10 yX10_readsNumber yX10_readsNumber, Cond.code yX10_readsNumber cX10_readsNumber 3 (some .boolean), Cond.fieldLink RX10 116 "RiverModelModel" "figures" "I", Cond.constantLong RX10 119 (48), Cond.constantLong RX10 121 (57), Cond.constantLong RX10 123 (7), Cond.methodLink RX10 144 yX10_areWell, Cond.static yX10_areWell, Cond.code yX10_areWell cX10_areWell 4 (some .boolean), Cond.constantLong RX10 99 (1000000), Cond.constantLong RX10 101 (1000), Cond.constantLong RX10 103 (10000), Cond.constantLong RX10 105 (12)]
def wsX10_swap_r3 : List Cond := [Cond.constantLong RX10 107 (100), Cond.methodLink RX10 170 yX10_copies, Cond.instanceMethod yX10_copies, Cond.selects RX10 yX10_copies yX10_copies, Cond.code yX10_copies cX10_copies 4 none, Cond.fieldLink RX10 19 "RiverModelModel" "second" "[I", Cond.fieldLink RX10 22 "RiverModelModel" "number" "[I", Cond.methodLink RX10 155 yX10_lays, Cond.instanceMethod yX10_lays, Cond.selects RX10 yX10_lays yX10_lays, Cond.code yX10_lays cX10_lays 5 none]
def wsX10_swap : List Cond := .code yX10_swap cX10_swap 5 (some .int) :: ((wsX10_swap_r1 ++ (wsX10_swap_r2 ++ wsX10_swap_r3)) ++ wsX100)
def wsX10_swapped_r1 : List Cond := [Cond.constantLong RX10 243 (3), Cond.constantLong RX10 229 (96), Cond.constantLong RX10 236 (-1), Cond.fieldLink RX10 177 "RiverModelModel" "isSwapped" "Z", Cond.constantLong RX10 238 (-2), Cond.fieldLink RX10 77 "RiverModelModel" "own" "[J", Cond.methodLink RX10 85 yX10_in, Cond.static yX10_in, Cond.initialized RX10, Cond.code yX10_in cX10_in 6 (some .boolean), Cond.methodLink RX10 248 yX10_isSet, Cond.instanceMethod yX10_isSet, Cond.selects RX10 yX10_isSet yX10_isSet, Cond.code yX10_isSet cX10_isSet 2 (some .boolean), Cond.fieldLink RX10 173 "RiverModelModel" "isBuilt" "Z", Cond.fieldLink RX10 38 "RiverModelModel" "gaugeKind" "[I", Cond.methodLink RX10 274 yX10_asides, Cond.instanceMethod yX10_asides, Cond.selects RX10 yX10_asides yX10_asides, Cond.code yX10_asides cX10_asides 2 none, Cond.fieldLink RX10 32 "RiverModelModel" "aside" "[J", Cond.fieldLink RX10 28 "RiverModelModel" "m" "[J", Cond.methodLink RX10 186 yX10_begins, Cond.instanceMethod yX10_begins]
def wsX10_swapped_r2 : List Cond := [Cond.selects RX10 yX10_begins yX10_begins, Cond.code yX10_begins cX10_begins 4 none, Cond.constantLong RX10 204 (224), Cond.constantLong RX10 206 (227), Cond.constantLong RX10 196 (5), Cond.fieldLink RX10 71 "RiverModelModel" "startB" "[I", Cond.methodLink RX10 208 yX10_isStore, Cond.instanceMethod yX10_isStore, Cond.selects RX10 yX10_isStore yX10_isStore, Cond.code yX10_isStore cX10_isStore 2 (some .boolean), Cond.methodLink RX10 166 yX10_storeAt, Cond.instanceMethod yX10_storeAt, Cond.selects RX10 yX10_storeAt yX10_storeAt, Cond.code yX10_storeAt cX10_storeAt 5 (some .int), Cond.fieldLink RX10 163 "RiverModelModel" "items" "I", Cond.fieldLink RX10 13 "RiverModelModel" "kind" "[I", Cond.fieldLink RX10 16 "RiverModelModel" "first" "[I", Cond.methodLink RX10 183 yX10_startOf, Cond.instanceMethod yX10_startOf, Cond.selects RX10 yX10_startOf yX10_startOf, Cond.code yX10_startOf cX10_startOf 4 (some .int), Cond.fieldLink RX10 22 "RiverModelModel" "number" "[I", Cond.methodLink RX10 231 yX10_goes, Cond.instanceMethod yX10_goes]
def wsX10_swapped_r3 : List Cond := [Cond.selects RX10 yX10_goes yX10_goes, Cond.code yX10_goes cX10_goes 4 none, Cond.fieldLink RX10 25 "RiverModelModel" "weather" "[I", Cond.methodLink RX10 225 yX10_passes, Cond.instanceMethod yX10_passes, Cond.selects RX10 yX10_passes yX10_passes, Cond.code yX10_passes cX10_passes 12 none, Cond.fieldLink RX10 19 "RiverModelModel" "second" "[I", Cond.methodLink RX10 221 yX10_moves, Cond.instanceMethod yX10_moves, Cond.selects RX10 yX10_moves yX10_moves, Cond.code yX10_moves cX10_moves 8 (some .long), Cond.constantLong RX10 107 (100), Cond.constantLong RX10 219 (10), Cond.methodLink RX10 211 yX10_capacity, Cond.instanceMethod yX10_capacity, Cond.selects RX10 yX10_capacity yX10_capacity, Cond.code yX10_capacity cX10_capacity 3 (some .long), Cond.methodLink RX10 215 yX10_most, Cond.instanceMethod yX10_most, Cond.selects RX10 yX10_most yX10_most, Cond.code yX10_most cX10_most 4 (some .long), Cond.methodLink RX10 251 yX10_reading, Cond.instanceMethod yX10_reading]
def wsX10_swapped_r4 : List Cond := [Cond.selects RX10 yX10_reading yX10_reading, Cond.code yX10_reading cX10_reading 2 (some .long), Cond.fieldLink RX10 41 "RiverModelModel" "gaugeAt" "[I", Cond.methodLink RX10 277 yX10_returns, Cond.instanceMethod yX10_returns, Cond.selects RX10 yX10_returns yX10_returns, Cond.code yX10_returns cX10_returns 2 none]
def wsX10_swapped : List Cond := .code yX10_swapped cX10_swapped 8 (some .long) :: ((wsX10_swapped_r1 ++ (wsX10_swapped_r2 ++ (wsX10_swapped_r3 ++ wsX10_swapped_r4))) ++ wsX100)
def wsX10_laySwap_r1 : List Cond := [Cond.fieldLink RX10 173 "RiverModelModel" "isBuilt" "Z", Cond.fieldLink RX10 177 "RiverModelModel" "isSwapped" "Z", Cond.methodLink RX10 190 yX10_becomes, Cond.instanceMethod yX10_becomes, Cond.selects RX10 yX10_becomes yX10_becomes, Cond.initialized RX10, Cond.code yX10_becomes cX10_becomes 3 none, Cond.fieldLink RX10 180 "RiverModelModel" "keptMany" "I", Cond.fieldLink RX10 71 "RiverModelModel" "startB" "[I", Cond.methodLink RX10 170 yX10_copies, Cond.instanceMethod yX10_copies, Cond.selects RX10 yX10_copies yX10_copies, Cond.code yX10_copies cX10_copies 4 none, Cond.fieldLink RX10 13 "RiverModelModel" "kind" "[I", Cond.fieldLink RX10 16 "RiverModelModel" "first" "[I", Cond.fieldLink RX10 19 "RiverModelModel" "second" "[I", Cond.fieldLink RX10 22 "RiverModelModel" "number" "[I", Cond.methodLink RX10 183 yX10_startOf, Cond.instanceMethod yX10_startOf, Cond.selects RX10 yX10_startOf yX10_startOf, Cond.code yX10_startOf cX10_startOf 4 (some .int), Cond.methodLink RX10 166 yX10_storeAt, Cond.instanceMethod yX10_storeAt, Cond.selects RX10 yX10_storeAt yX10_storeAt]
def wsX10_laySwap_r2 : List Cond := [Cond.code yX10_storeAt cX10_storeAt 5 (some .int), Cond.fieldLink RX10 163 "RiverModelModel" "items" "I", Cond.methodLink RX10 186 yX10_begins, Cond.instanceMethod yX10_begins, Cond.selects RX10 yX10_begins yX10_begins, Cond.code yX10_begins cX10_begins 4 none, Cond.fieldLink RX10 28 "RiverModelModel" "m" "[J", Cond.constantLong RX10 204 (224), Cond.constantLong RX10 206 (227), Cond.constantLong RX10 196 (5), Cond.methodLink RX10 85 yX10_in, Cond.static yX10_in, Cond.code yX10_in cX10_in 6 (some .boolean), Cond.methodLink RX10 208 yX10_isStore, Cond.instanceMethod yX10_isStore, Cond.selects RX10 yX10_isStore yX10_isStore, Cond.code yX10_isStore cX10_isStore 2 (some .boolean)]
def wsX10_laySwap : List Cond := .code yX10_laySwap cX10_laySwap 1 (some .int) :: ((wsX10_laySwap_r1 ++ wsX10_laySwap_r2) ++ wsX100)
def wsX10_startB : List Cond := .code yX10_startB cX10_startB 4 (some .int) :: ([.constantLong RX10 234 (15), .constantLong RX10 99 (1000000), .fieldLink RX10 173 "RiverModelModel" "isBuilt" "Z", .fieldLink RX10 71 "RiverModelModel" "startB" "[I", .methodLink RX10 85 yX10_in, .static yX10_in, .initialized RX10, .code yX10_in cX10_in 6 (some .boolean), .methodLink RX10 208 yX10_isStore, .instanceMethod yX10_isStore, .selects RX10 yX10_isStore yX10_isStore, .code yX10_isStore cX10_isStore 2 (some .boolean), .methodLink RX10 166 yX10_storeAt, .instanceMethod yX10_storeAt, .selects RX10 yX10_storeAt yX10_storeAt, .code yX10_storeAt cX10_storeAt 5 (some .int), .fieldLink RX10 163 "RiverModelModel" "items" "I", .fieldLink RX10 13 "RiverModelModel" "kind" "[I", .fieldLink RX10 16 "RiverModelModel" "first" "[I"] ++ wsX100)
def wsX10_trial_r1 : List Cond := [Cond.methodLink RX10 274 yX10_asides, Cond.instanceMethod yX10_asides, Cond.selects RX10 yX10_asides yX10_asides, Cond.initialized RX10, Cond.code yX10_asides cX10_asides 2 none, Cond.fieldLink RX10 32 "RiverModelModel" "aside" "[J", Cond.fieldLink RX10 28 "RiverModelModel" "m" "[J", Cond.methodLink RX10 186 yX10_begins, Cond.instanceMethod yX10_begins, Cond.selects RX10 yX10_begins yX10_begins, Cond.code yX10_begins cX10_begins 4 none, Cond.constantLong RX10 204 (224), Cond.constantLong RX10 206 (227), Cond.constantLong RX10 196 (5), Cond.fieldLink RX10 71 "RiverModelModel" "startB" "[I", Cond.methodLink RX10 85 yX10_in, Cond.static yX10_in, Cond.code yX10_in cX10_in 6 (some .boolean), Cond.methodLink RX10 208 yX10_isStore, Cond.instanceMethod yX10_isStore, Cond.selects RX10 yX10_isStore yX10_isStore, Cond.code yX10_isStore cX10_isStore 2 (some .boolean), Cond.methodLink RX10 166 yX10_storeAt, Cond.instanceMethod yX10_storeAt]
def wsX10_trial_r2 : List Cond := [Cond.selects RX10 yX10_storeAt yX10_storeAt, Cond.code yX10_storeAt cX10_storeAt 5 (some .int), Cond.fieldLink RX10 163 "RiverModelModel" "items" "I", Cond.fieldLink RX10 13 "RiverModelModel" "kind" "[I", Cond.fieldLink RX10 16 "RiverModelModel" "first" "[I", Cond.methodLink RX10 183 yX10_startOf, Cond.instanceMethod yX10_startOf, Cond.selects RX10 yX10_startOf yX10_startOf, Cond.code yX10_startOf cX10_startOf 4 (some .int), Cond.fieldLink RX10 22 "RiverModelModel" "number" "[I", Cond.methodLink RX10 231 yX10_goes, Cond.instanceMethod yX10_goes, Cond.selects RX10 yX10_goes yX10_goes, Cond.code yX10_goes cX10_goes 4 none, Cond.fieldLink RX10 25 "RiverModelModel" "weather" "[I", Cond.methodLink RX10 225 yX10_passes, Cond.instanceMethod yX10_passes, Cond.selects RX10 yX10_passes yX10_passes, Cond.code yX10_passes cX10_passes 12 none, Cond.fieldLink RX10 19 "RiverModelModel" "second" "[I", Cond.methodLink RX10 221 yX10_moves, Cond.instanceMethod yX10_moves, Cond.selects RX10 yX10_moves yX10_moves, Cond.code yX10_moves cX10_moves 8 (some .long)]
def wsX10_trial_r3 : List Cond := [Cond.constantLong RX10 107 (100), Cond.constantLong RX10 219 (10), Cond.methodLink RX10 211 yX10_capacity, Cond.instanceMethod yX10_capacity, Cond.selects RX10 yX10_capacity yX10_capacity, Cond.code yX10_capacity cX10_capacity 3 (some .long), Cond.methodLink RX10 215 yX10_most, Cond.instanceMethod yX10_most, Cond.selects RX10 yX10_most yX10_most, Cond.code yX10_most cX10_most 4 (some .long), Cond.methodLink RX10 251 yX10_reading, Cond.instanceMethod yX10_reading, Cond.selects RX10 yX10_reading yX10_reading, Cond.code yX10_reading cX10_reading 2 (some .long), Cond.fieldLink RX10 38 "RiverModelModel" "gaugeKind" "[I", Cond.fieldLink RX10 41 "RiverModelModel" "gaugeAt" "[I", Cond.methodLink RX10 277 yX10_returns, Cond.instanceMethod yX10_returns, Cond.selects RX10 yX10_returns yX10_returns, Cond.code yX10_returns cX10_returns 2 none]
def wsX10_trial : List Cond := .code yX10_trial cX10_trial 8 (some .long) :: ((wsX10_trial_r1 ++ (wsX10_trial_r2 ++ wsX10_trial_r3)) ++ wsX100)
def wsX10_blame_r1 : List Cond := [Cond.constantLong RX10 243 (3), Cond.constantLong RX10 198 (95), Cond.constantLong RX10 313 (-1000000000000000000), Cond.constantLong RX10 315 (-1000000000000000001), Cond.fieldLink RX10 177 "RiverModelModel" "isSwapped" "Z", Cond.methodLink RX10 85 yX10_in, Cond.static yX10_in, Cond.initialized RX10, Cond.code yX10_in cX10_in 6 (some .boolean), Cond.methodLink RX10 248 yX10_isSet, Cond.instanceMethod yX10_isSet, Cond.selects RX10 yX10_isSet yX10_isSet, Cond.code yX10_isSet cX10_isSet 2 (some .boolean), Cond.fieldLink RX10 173 "RiverModelModel" "isBuilt" "Z", Cond.fieldLink RX10 38 "RiverModelModel" "gaugeKind" "[I", Cond.methodLink RX10 317 yX10_trial, Cond.instanceMethod yX10_trial, Cond.selects RX10 yX10_trial yX10_trial, Cond.code yX10_trial cX10_trial 8 (some .long), Cond.methodLink RX10 274 yX10_asides, Cond.instanceMethod yX10_asides, Cond.selects RX10 yX10_asides yX10_asides, Cond.code yX10_asides cX10_asides 2 none, Cond.fieldLink RX10 32 "RiverModelModel" "aside" "[J"]
def wsX10_blame_r2 : List Cond := [Cond.fieldLink RX10 28 "RiverModelModel" "m" "[J", Cond.methodLink RX10 186 yX10_begins, Cond.instanceMethod yX10_begins, Cond.selects RX10 yX10_begins yX10_begins, Cond.code yX10_begins cX10_begins 4 none, Cond.constantLong RX10 204 (224), Cond.constantLong RX10 206 (227), Cond.constantLong RX10 196 (5), Cond.fieldLink RX10 71 "RiverModelModel" "startB" "[I", Cond.methodLink RX10 208 yX10_isStore, Cond.instanceMethod yX10_isStore, Cond.selects RX10 yX10_isStore yX10_isStore, Cond.code yX10_isStore cX10_isStore 2 (some .boolean), Cond.methodLink RX10 166 yX10_storeAt, Cond.instanceMethod yX10_storeAt, Cond.selects RX10 yX10_storeAt yX10_storeAt, Cond.code yX10_storeAt cX10_storeAt 5 (some .int), Cond.fieldLink RX10 163 "RiverModelModel" "items" "I", Cond.fieldLink RX10 13 "RiverModelModel" "kind" "[I", Cond.fieldLink RX10 16 "RiverModelModel" "first" "[I", Cond.methodLink RX10 183 yX10_startOf, Cond.instanceMethod yX10_startOf, Cond.selects RX10 yX10_startOf yX10_startOf, Cond.code yX10_startOf cX10_startOf 4 (some .int)]
def wsX10_blame_r3 : List Cond := [Cond.fieldLink RX10 22 "RiverModelModel" "number" "[I", Cond.methodLink RX10 231 yX10_goes, Cond.instanceMethod yX10_goes, Cond.selects RX10 yX10_goes yX10_goes, Cond.code yX10_goes cX10_goes 4 none, Cond.fieldLink RX10 25 "RiverModelModel" "weather" "[I", Cond.methodLink RX10 225 yX10_passes, Cond.instanceMethod yX10_passes, Cond.selects RX10 yX10_passes yX10_passes, Cond.code yX10_passes cX10_passes 12 none, Cond.fieldLink RX10 19 "RiverModelModel" "second" "[I", Cond.methodLink RX10 221 yX10_moves, Cond.instanceMethod yX10_moves, Cond.selects RX10 yX10_moves yX10_moves, Cond.code yX10_moves cX10_moves 8 (some .long), Cond.constantLong RX10 107 (100), Cond.constantLong RX10 219 (10), Cond.methodLink RX10 211 yX10_capacity, Cond.instanceMethod yX10_capacity, Cond.selects RX10 yX10_capacity yX10_capacity, Cond.code yX10_capacity cX10_capacity 3 (some .long), Cond.methodLink RX10 215 yX10_most, Cond.instanceMethod yX10_most, Cond.selects RX10 yX10_most yX10_most]
def wsX10_blame_r4 : List Cond := [Cond.code yX10_most cX10_most 4 (some .long), Cond.methodLink RX10 251 yX10_reading, Cond.instanceMethod yX10_reading, Cond.selects RX10 yX10_reading yX10_reading, Cond.code yX10_reading cX10_reading 2 (some .long), Cond.fieldLink RX10 41 "RiverModelModel" "gaugeAt" "[I", Cond.methodLink RX10 277 yX10_returns, Cond.instanceMethod yX10_returns, Cond.selects RX10 yX10_returns yX10_returns, Cond.code yX10_returns cX10_returns 2 none]
def wsX10_blame : List Cond := .code yX10_blame cX10_blame 12 (some .long) :: ((wsX10_blame_r1 ++ (wsX10_blame_r2 ++ (wsX10_blame_r3 ++ wsX10_blame_r4))) ++ wsX100)
def wsX10_keep : List Cond := .code yX10_keep cX10_keep 2 (some .int) :: ([.fieldLink RX10 173 "RiverModelModel" "isBuilt" "Z", .fieldLink RX10 180 "RiverModelModel" "keptMany" "I", .fieldLink RX10 35 "RiverModelModel" "kept" "[J", .fieldLink RX10 28 "RiverModelModel" "m" "[J"] ++ wsX100)
def wsX10_back : List Cond := .code yX10_back cX10_back 2 (some .int) :: ([.fieldLink RX10 180 "RiverModelModel" "keptMany" "I", .fieldLink RX10 28 "RiverModelModel" "m" "[J", .fieldLink RX10 35 "RiverModelModel" "kept" "[J"] ++ wsX100)
def wsX10_count : List Cond := .code yX10_count cX10_count 5 (some .int) :: ([.fieldLink RX10 44 "RiverModelModel" "seen" "[I", .fieldLink RX10 38 "RiverModelModel" "gaugeKind" "[I", .fieldLink RX10 89 "RiverModelModel" "length" "I", .fieldLink RX10 173 "RiverModelModel" "isBuilt" "Z", .fieldLink RX10 163 "RiverModelModel" "items" "I", .fieldLink RX10 28 "RiverModelModel" "m" "[J", .fieldLink RX10 59 "RiverModelModel" "knobMany" "[I", .fieldLink RX10 180 "RiverModelModel" "keptMany" "I", .methodLink RX10 245 yX10_ofKind, .instanceMethod yX10_ofKind, .selects RX10 yX10_ofKind yX10_ofKind, .initialized RX10, .code yX10_ofKind cX10_ofKind 4 (some .int), .fieldLink RX10 13 "RiverModelModel" "kind" "[I"] ++ wsX100)
def wsJ9_abs_067f4 : List Cond := .code yJ9_abs_067f4 cJ9_abs_067f4 2 (some .long) :: ([])
def wsJ9_max_7cf53 : List Cond := .code yJ9_max_7cf53 cJ9_max_7cf53 2 (some .int) :: ([])
def wsJ9_max_f86c9 : List Cond := .code yJ9_max_f86c9 cJ9_max_f86c9 4 (some .long) :: ([])
def wsJ9_min_f86c9 : List Cond := .code yJ9_min_f86c9 cJ9_min_f86c9 4 (some .long) :: ([])
def wsL_law_r1 : List Cond := [Cond.classLink RL 7 RX9, Cond.instantiable RX9 18, Cond.initialized RX9, Cond.classLink RL 10 RX10, Cond.instantiable RX10 36, Cond.initialized RX10, Cond.constantLong RL 13 (4294967295), Cond.methodLink RL 9 yX9_init, Cond.instanceMethod yX9_init, Cond.code yX9_init cX9_init 2 none, Cond.methodLink RX9 1 objectInit, Cond.instanceMethod objectInit, Cond.code objectInit ⟨#[0xb1]⟩ 1 none, Cond.classLink RX9 7 RX7, Cond.instantiable RX7 4, Cond.initialized RX7, Cond.fieldLink RX9 10 "RiverModel" "text" "LRiverModel$Text;", Cond.classLink RX9 16 RX4, Cond.instantiable RX4 6, Cond.initialized RX4, Cond.fieldLink RX9 19 "RiverModel" "model" "LRiverModel$Model;", Cond.fieldLink RX9 23 "RiverModel" "draft" "LRiverModel$Model;", Cond.fieldLink RX9 26 "RiverModel" "other" "LRiverModel$Model;", Cond.fieldLink RX9 29 "RiverModel" "isBuilt" "Z"]
def wsL_law_r2 : List Cond := [Cond.fieldLink RX9 33 "RiverModel" "isOtherLaid" "Z", Cond.classLink RX9 36 RX6, Cond.instantiable RX6 2, Cond.initialized RX6, Cond.fieldLink RX9 39 "RiverModel" "skyA" "LRiverModel$Sky;", Cond.fieldLink RX9 43 "RiverModel" "skyB" "LRiverModel$Sky;", Cond.arrayClass .int, Cond.fieldLink RX9 46 "RiverModel" "startsB" "[I", Cond.classLink RX9 50 RX0, Cond.instantiable RX0 8, Cond.initialized RX0, Cond.fieldLink RX9 53 "RiverModel" "now" "LRiverModel$Course;", Cond.fieldLink RX9 57 "RiverModel" "trial" "LRiverModel$Course;", Cond.fieldLink RX9 60 "RiverModel" "second" "LRiverModel$Course;", Cond.fieldLink RX9 63 "RiverModel" "kept" "[LRiverModel$Course;", Cond.fieldLink RX9 67 "RiverModel" "keptMany" "I", Cond.classLink RX9 71 RX1, Cond.instantiable RX1 4, Cond.initialized RX1, Cond.fieldLink RX9 74 "RiverModel" "gauges" "LRiverModel$Gauges;", Cond.classLink RX9 78 RX3, Cond.instantiable RX3 5, Cond.initialized RX3, Cond.fieldLink RX9 81 "RiverModel" "knobs" "LRiverModel$Knobs;"]
def wsL_law_r3 : List Cond := [Cond.classLink RX9 85 RX8, Cond.instantiable RX8 3, Cond.initialized RX8, Cond.fieldLink RX9 88 "RiverModel" "worlds" "LRiverModel$Worlds;", Cond.classLink RX9 92 RX5, Cond.instantiable RX5 10, Cond.initialized RX5, Cond.fieldLink RX9 95 "RiverModel" "search" "LRiverModel$Search;", Cond.instanceMethod yX7_init, Cond.code yX7_init cX7_init 1 none, Cond.methodLink RX7 3 objectInit, Cond.fieldLink RX7 9 "RiverModel$Text" "bytes" "[I", Cond.fieldLink RX7 15 "RiverModel$Text" "row" "[I", Cond.fieldLink RX7 18 "RiverModel$Text" "length" "I", Cond.fieldLink RX7 22 "RiverModel$Text" "at" "I", Cond.instanceMethod yX4_init, Cond.code yX4_init cX4_init 1 none, Cond.methodLink RX4 3 objectInit, Cond.fieldLink RX4 9 "RiverModel$Model" "cells" "[I", Cond.fieldLink RX4 15 "RiverModel$Model" "storeItems" "[I", Cond.fieldLink RX4 18 "RiverModel$Model" "gateItems" "[I", Cond.fieldLink RX4 21 "RiverModel$Model" "many" "I", Cond.fieldLink RX4 25 "RiverModel$Model" "stores" "I", Cond.fieldLink RX4 28 "RiverModel$Model" "gates" "I"]
def wsL_law_r4 : List Cond := [Cond.methodLink RX9 38 yX6_init, Cond.instanceMethod yX6_init, Cond.code yX6_init cX6_init 1 none, Cond.methodLink RX6 3 objectInit, Cond.fieldLink RX6 9 "RiverModel$Sky" "rains" "[I", Cond.fieldLink RX6 15 "RiverModel$Sky" "temps" "[I", Cond.methodLink RX6 18 yJ7_fill_53178, Cond.static yJ7_fill_53178, Cond.initialized RJ7, Cond.code yJ7_fill_53178 cJ7_fill_53178 4 none, Cond.instanceMethod yX0_init, Cond.code yX0_init cX0_init 1 none, Cond.methodLink RX0 3 objectInit, Cond.arrayClass .long, Cond.fieldLink RX0 9 "RiverModel$Course" "held" "[J", Cond.fieldLink RX0 15 "RiverModel$Course" "moved" "[J", Cond.fieldLink RX0 18 "RiverModel$Course" "openings" "[I", Cond.fieldLink RX0 22 "RiverModel$Course" "due" "[J", Cond.fieldLink RX0 25 "RiverModel$Course" "rained" "J", Cond.fieldLink RX0 29 "RiverModel$Course" "air" "J", Cond.fieldLink RX0 32 "RiverModel$Course" "sea" "J", Cond.fieldLink RX0 35 "RiverModel$Course" "hours" "I", Cond.methodLink RX9 73 yX1_init, Cond.instanceMethod yX1_init]
def wsL_law_r5 : List Cond := [Cond.code yX1_init cX1_init 1 none, Cond.methodLink RX1 3 objectInit, Cond.fieldLink RX1 9 "RiverModel$Gauges" "whats" "[I", Cond.fieldLink RX1 15 "RiverModel$Gauges" "places" "[I", Cond.fieldLink RX1 18 "RiverModel$Gauges" "seen" "[I", Cond.fieldLink RX1 21 "RiverModel$Gauges" "mayBeOff" "I", Cond.methodLink RX1 25 yJ7_fill_53178, Cond.instanceMethod yX3_init, Cond.code yX3_init cX3_init 1 none, Cond.methodLink RX3 3 objectInit, Cond.fieldLink RX3 9 "RiverModel$Knobs" "items" "[I", Cond.fieldLink RX3 15 "RiverModel$Knobs" "numbers" "[I", Cond.fieldLink RX3 18 "RiverModel$Knobs" "froms" "[I", Cond.fieldLink RX3 21 "RiverModel$Knobs" "steps" "[I", Cond.fieldLink RX3 24 "RiverModel$Knobs" "manys" "[I", Cond.instanceMethod yX8_init, Cond.code yX8_init cX8_init 1 none, Cond.methodLink RX8 3 objectInit, Cond.fieldLink RX8 9 "RiverModel$Worlds" "weights" "[I", Cond.fieldLink RX8 15 "RiverModel$Worlds" "warnings" "[I", Cond.fieldLink RX8 18 "RiverModel$Worlds" "rains" "[I", Cond.methodLink RX9 94 yX5_init, Cond.instanceMethod yX5_init, Cond.code yX5_init cX5_init 2 none]
def wsL_law_r6 : List Cond := [Cond.methodLink RX5 3 objectInit, Cond.classLink RX5 9 RX0, Cond.fieldLink RX5 11 "RiverModel$Search" "blockEnds" "[LRiverModel$Course;", Cond.fieldLink RX5 17 "RiverModel$Search" "tried" "[I", Cond.fieldLink RX5 21 "RiverModel$Search" "found" "[I", Cond.fieldLink RX5 24 "RiverModel$Search" "isFound" "Z", Cond.fieldLink RX5 28 "RiverModel$Search" "leastPeak" "J", Cond.fieldLink RX5 32 "RiverModel$Search" "gate" "I", Cond.fieldLink RX5 36 "RiverModel$Search" "blockHours" "I", Cond.fieldLink RX5 39 "RiverModel$Search" "gauge" "I", Cond.fieldLink RX5 42 "RiverModel$Search" "store" "I", Cond.fieldLink RX5 45 "RiverModel$Search" "limit" "J", Cond.methodLink RL 12 yX10_init, Cond.instanceMethod yX10_init, Cond.code yX10_init cX10_init 2 none, Cond.methodLink RX10 1 objectInit, Cond.fieldLink RX10 7 "RiverModelModel" "text" "[I", Cond.fieldLink RX10 13 "RiverModelModel" "kind" "[I", Cond.fieldLink RX10 16 "RiverModelModel" "first" "[I", Cond.fieldLink RX10 19 "RiverModelModel" "second" "[I", Cond.fieldLink RX10 22 "RiverModelModel" "number" "[I", Cond.fieldLink RX10 25 "RiverModelModel" "weather" "[I", Cond.fieldLink RX10 28 "RiverModelModel" "m" "[J", Cond.fieldLink RX10 32 "RiverModelModel" "aside" "[J"]
def wsL_law_r7 : List Cond := [Cond.fieldLink RX10 35 "RiverModelModel" "kept" "[J", Cond.fieldLink RX10 38 "RiverModelModel" "gaugeKind" "[I", Cond.fieldLink RX10 41 "RiverModelModel" "gaugeAt" "[I", Cond.fieldLink RX10 44 "RiverModelModel" "seen" "[I", Cond.fieldLink RX10 47 "RiverModelModel" "knobItem" "[I", Cond.fieldLink RX10 50 "RiverModelModel" "knobAt" "[I", Cond.fieldLink RX10 53 "RiverModelModel" "knobFrom" "[I", Cond.fieldLink RX10 56 "RiverModelModel" "knobStep" "[I", Cond.fieldLink RX10 59 "RiverModelModel" "knobMany" "[I", Cond.fieldLink RX10 62 "RiverModelModel" "weight" "[I", Cond.fieldLink RX10 65 "RiverModelModel" "ahead" "[I", Cond.fieldLink RX10 68 "RiverModelModel" "booked" "[I", Cond.fieldLink RX10 71 "RiverModelModel" "startB" "[I", Cond.fieldLink RX10 74 "RiverModelModel" "readNumber" "[I", Cond.fieldLink RX10 77 "RiverModelModel" "own" "[J", Cond.methodLink RX10 80 yX10_forgets, Cond.instanceMethod yX10_forgets, Cond.selects RX10 yX10_forgets yX10_forgets, Cond.code yX10_forgets cX10_forgets 2 none, Cond.methodLink RL 15 yX9_write, Cond.instanceMethod yX9_write, Cond.selects RX9 yX9_write yX9_write, Cond.code yX9_write cX9_write 4 (some .int), Cond.fieldLink RX9 103 "RiverModel$Text" "length" "I"]
def wsL_law_r8 : List Cond := [Cond.methodLink RX9 99 yX9_isOutside, Cond.static yX9_isOutside, Cond.code yX9_isOutside cX9_isOutside 3 (some .boolean), Cond.methodLink RX9 106 yX7_append, Cond.instanceMethod yX7_append, Cond.selects RX7 yX7_append yX7_append, Cond.code yX7_append cX7_append 5 none, Cond.methodLink RL 19 yX10_write, Cond.instanceMethod yX10_write, Cond.selects RX10 yX10_write yX10_write, Cond.code yX10_write cX10_write 5 (some .int), Cond.constantLong RX10 83 (8), Cond.fieldLink RX10 89 "RiverModelModel" "length" "I", Cond.constantLong RX10 93 (255), Cond.methodLink RX10 85 yX10_in, Cond.static yX10_in, Cond.code yX10_in cX10_in 6 (some .boolean), Cond.methodLink RL 20 yX9_clear, Cond.instanceMethod yX9_clear, Cond.selects RX9 yX9_clear yX9_clear, Cond.code yX9_clear cX9_clear 2 (some .int), Cond.methodLink RL 24 yX10_clear, Cond.instanceMethod yX10_clear, Cond.selects RX10 yX10_clear yX10_clear]
def wsL_law_r9 : List Cond := [Cond.code yX10_clear cX10_clear 2 (some .int), Cond.methodLink RL 25 yX9_fault, Cond.instanceMethod yX9_fault, Cond.selects RX9 yX9_fault yX9_fault, Cond.code yX9_fault cX9_fault 1 (some .int), Cond.methodLink RX9 110 yX7_readInto, Cond.instanceMethod yX7_readInto, Cond.selects RX7 yX7_readInto yX7_readInto, Cond.code yX7_readInto cX7_readInto 4 (some .int), Cond.methodLink RX7 25 yX4_empty, Cond.instanceMethod yX4_empty, Cond.selects RX4 yX4_empty yX4_empty, Cond.code yX4_empty cX4_empty 1 none, Cond.methodLink RX4 31 yJ7_fill_53178, Cond.methodLink RX7 30 yX7_readItem, Cond.instanceMethod yX7_readItem, Cond.selects RX7 yX7_readItem yX7_readItem, Cond.code yX7_readItem cX7_readItem 5 (some .boolean), Cond.methodLink RX7 42 yJ7_fill_53178, Cond.methodLink RX7 48 yX7_nextByte, Cond.instanceMethod yX7_nextByte, Cond.selects RX7 yX7_nextByte yX7_nextByte, Cond.code yX7_nextByte cX7_nextByte 1 (some .int), Cond.methodLink RX7 52 yX2_namesOf]
def wsL_law_r10 : List Cond := [Cond.static yX2_namesOf, Cond.initialized RX2, Cond.code yX2_namesOf cX2_namesOf 1 (some .int), Cond.methodLink RX7 58 yX7_readName, Cond.instanceMethod yX7_readName, Cond.selects RX7 yX7_readName yX7_readName, Cond.code yX7_readName cX7_readName 3 (some .boolean), Cond.static yX9_isNoStore, Cond.code yX9_isNoStore cX9_isNoStore 1 (some .boolean), Cond.methodLink RX7 62 yX2_numbersOf, Cond.static yX2_numbersOf, Cond.code yX2_numbersOf cX2_numbersOf 1 (some .int), Cond.methodLink RX7 65 yX7_readNumber, Cond.instanceMethod yX7_readNumber, Cond.selects RX7 yX7_readNumber yX7_readNumber, Cond.code yX7_readNumber cX7_readNumber 4 (some .boolean), Cond.methodLink RX7 71 yX7_isAtFigure, Cond.instanceMethod yX7_isAtFigure, Cond.selects RX7 yX7_isAtFigure yX7_isAtFigure, Cond.code yX7_isAtFigure cX7_isAtFigure 1 (some .boolean), Cond.methodLink RX7 34 yX4_mayFollow, Cond.instanceMethod yX4_mayFollow, Cond.selects RX4 yX4_mayFollow yX4_mayFollow, Cond.code yX4_mayFollow cX4_mayFollow 2 (some .boolean)]
def wsL_law_r11 : List Cond := [Cond.methodLink RX4 62 yX4_areNumbersAsTold, Cond.static yX4_areNumbersAsTold, Cond.code yX4_areNumbersAsTold cX4_areNumbersAsTold 1 (some .boolean), Cond.methodLink RX4 77 yX2_areNumbersAsTold, Cond.static yX2_areNumbersAsTold, Cond.code yX2_areNumbersAsTold cX2_areNumbersAsTold 4 (some .boolean), Cond.constant RX2 9 (1000000), Cond.methodLink RX2 10 yX2_isUpTo, Cond.static yX2_isUpTo, Cond.code yX2_isUpTo cX2_isUpTo 2 (some .boolean), Cond.methodLink RX4 66 yX4_hasStore, Cond.instanceMethod yX4_hasStore, Cond.selects RX4 yX4_hasStore yX4_hasStore, Cond.code yX4_hasStore cX4_hasStore 2 (some .boolean), Cond.methodLink RX4 69 yX4_areNamesAhead, Cond.instanceMethod yX4_areNamesAhead, Cond.selects RX4 yX4_areNamesAhead yX4_areNamesAhead, Cond.code yX4_areNamesAhead cX4_areNamesAhead 5 (some .boolean), Cond.methodLink RX4 82 yX4_isStoreAhead, Cond.instanceMethod yX4_isStoreAhead, Cond.selects RX4 yX4_isStoreAhead yX4_isStoreAhead, Cond.code yX4_isStoreAhead cX4_isStoreAhead 3 (some .boolean), Cond.methodLink RX7 38 yX4_add, Cond.instanceMethod yX4_add]
def wsL_law_r12 : List Cond := [Cond.selects RX4 yX4_add yX4_add, Cond.code yX4_add cX4_add 2 none, Cond.methodLink RX4 55 yX4_put, Cond.instanceMethod yX4_put, Cond.selects RX4 yX4_put yX4_put, Cond.code yX4_put cX4_put 4 none, Cond.methodLink RX4 51 yX4_putCell, Cond.instanceMethod yX4_putCell, Cond.selects RX4 yX4_putCell yX4_putCell, Cond.code yX4_putCell cX4_putCell 4 none, Cond.static yX9_isNoItem, Cond.code yX9_isNoItem cX9_isNoItem 1 (some .boolean), Cond.methodLink RL 28 yX10_fault, Cond.instanceMethod yX10_fault, Cond.selects RX10 yX10_fault yX10_fault, Cond.code yX10_fault cX10_fault 1 (some .int), Cond.methodLink RX10 159 yX10_faultOf, Cond.instanceMethod yX10_faultOf, Cond.selects RX10 yX10_faultOf yX10_faultOf, Cond.code yX10_faultOf cX10_faultOf 4 (some .int), Cond.fieldLink RX10 148 "RiverModelModel" "readItems" "I", Cond.fieldLink RX10 125 "RiverModelModel" "readKind" "I", Cond.fieldLink RX10 135 "RiverModelModel" "readFirst" "I", Cond.fieldLink RX10 109 "RiverModelModel" "end" "I"]
def wsL_law_r13 : List Cond := [Cond.methodLink RX10 151 yX10_readsItem, Cond.instanceMethod yX10_readsItem, Cond.selects RX10 yX10_readsItem yX10_readsItem, Cond.code yX10_readsItem cX10_readsItem 8 (some .boolean), Cond.fieldLink RX10 138 "RiverModelModel" "readSecond" "I", Cond.methodLink RX10 112 yX10_byteAt, Cond.instanceMethod yX10_byteAt, Cond.selects RX10 yX10_byteAt yX10_byteAt, Cond.code yX10_byteAt cX10_byteAt 2 (some .int), Cond.methodLink RX10 128 yX10_shape, Cond.static yX10_shape, Cond.code yX10_shape cX10_shape 1 (some .int), Cond.methodLink RX10 131 yX10_isName, Cond.static yX10_isName, Cond.code yX10_isName cX10_isName 1 (some .boolean), Cond.constantLong RX10 95 (97), Cond.constantLong RX10 97 (112), Cond.methodLink RX10 141 yX10_readsNumber, Cond.instanceMethod yX10_readsNumber, Cond.selects RX10 yX10_readsNumber yX10_readsNumber, Cond.code yX10_readsNumber cX10_readsNumber 3 (some .boolean), Cond.fieldLink RX10 116 "RiverModelModel" "figures" "I", Cond.constantLong RX10 119 (48), Cond.constantLong RX10 121 (57)]
def wsL_law_r14 : List Cond := [Cond.constantLong RX10 123 (7), Cond.methodLink RX10 144 yX10_areWell, Cond.static yX10_areWell, Cond.code yX10_areWell cX10_areWell 4 (some .boolean), Cond.constantLong RX10 99 (1000000), Cond.constantLong RX10 101 (1000), Cond.constantLong RX10 103 (10000), Cond.constantLong RX10 105 (12), Cond.constantLong RX10 107 (100), Cond.methodLink RX10 155 yX10_lays, Cond.instanceMethod yX10_lays, Cond.selects RX10 yX10_lays yX10_lays, Cond.code yX10_lays cX10_lays 5 none, Cond.methodLink RL 29 yX9_build, Cond.instanceMethod yX9_build, Cond.selects RX9 yX9_build yX9_build, Cond.code yX9_build cX9_build 1 (some .int), Cond.fieldLink RX9 114 "RiverModel$Model" "stores" "I", Cond.fieldLink RX9 124 "RiverModel$Model" "many" "I", Cond.methodLink RX9 117 yX1_unsetAll, Cond.instanceMethod yX1_unsetAll, Cond.selects RX1 yX1_unsetAll yX1_unsetAll, Cond.code yX1_unsetAll cX1_unsetAll 1 none, Cond.methodLink RX9 120 yX3_unsetAll]
def wsL_law_r15 : List Cond := [Cond.instanceMethod yX3_unsetAll, Cond.selects RX3 yX3_unsetAll yX3_unsetAll, Cond.code yX3_unsetAll cX3_unsetAll 1 none, Cond.methodLink RX3 27 yJ7_fill_53178, Cond.methodLink RX9 121 yX9_draftBecomesModel, Cond.instanceMethod yX9_draftBecomesModel, Cond.selects RX9 yX9_draftBecomesModel yX9_draftBecomesModel, Cond.code yX9_draftBecomesModel cX9_draftBecomesModel 3 none, Cond.methodLink RX9 147 yX0_begin, Cond.instanceMethod yX0_begin, Cond.selects RX0 yX0_begin yX0_begin, Cond.code yX0_begin cX0_begin 3 none, Cond.methodLink RX0 39 yX4_startOf, Cond.instanceMethod yX4_startOf, Cond.selects RX4 yX4_startOf yX4_startOf, Cond.code yX4_startOf cX4_startOf 2 (some .int), Cond.methodLink RX4 73 yX4_cell, Cond.instanceMethod yX4_cell, Cond.selects RX4 yX4_cell yX4_cell, Cond.code yX4_cell cX4_cell 3 (some .int), Cond.methodLink RX0 45 yJ7_fill_d0a16, Cond.static yJ7_fill_d0a16, Cond.code yJ7_fill_d0a16 cJ7_fill_d0a16 5 none, Cond.methodLink RX0 51 yJ7_fill_53178]
def wsL_law_r16 : List Cond := [Cond.methodLink RX9 347 yX4_startOf, Cond.methodLink RL 32 yX10_build, Cond.instanceMethod yX10_build, Cond.selects RX10 yX10_build yX10_build, Cond.code yX10_build cX10_build 3 (some .int), Cond.fieldLink RX10 163 "RiverModelModel" "items" "I", Cond.methodLink RX10 190 yX10_becomes, Cond.instanceMethod yX10_becomes, Cond.selects RX10 yX10_becomes yX10_becomes, Cond.code yX10_becomes cX10_becomes 3 none, Cond.fieldLink RX10 173 "RiverModelModel" "isBuilt" "Z", Cond.fieldLink RX10 177 "RiverModelModel" "isSwapped" "Z", Cond.fieldLink RX10 180 "RiverModelModel" "keptMany" "I", Cond.methodLink RX10 170 yX10_copies, Cond.instanceMethod yX10_copies, Cond.selects RX10 yX10_copies yX10_copies, Cond.code yX10_copies cX10_copies 4 none, Cond.methodLink RX10 183 yX10_startOf, Cond.instanceMethod yX10_startOf, Cond.selects RX10 yX10_startOf yX10_startOf, Cond.code yX10_startOf cX10_startOf 4 (some .int), Cond.methodLink RX10 166 yX10_storeAt, Cond.instanceMethod yX10_storeAt, Cond.selects RX10 yX10_storeAt yX10_storeAt]
def wsL_law_r17 : List Cond := [Cond.code yX10_storeAt cX10_storeAt 5 (some .int), Cond.methodLink RX10 186 yX10_begins, Cond.instanceMethod yX10_begins, Cond.selects RX10 yX10_begins yX10_begins, Cond.code yX10_begins cX10_begins 4 none, Cond.constantLong RX10 204 (224), Cond.constantLong RX10 206 (227), Cond.constantLong RX10 196 (5), Cond.methodLink RX10 208 yX10_isStore, Cond.instanceMethod yX10_isStore, Cond.selects RX10 yX10_isStore yX10_isStore, Cond.code yX10_isStore cX10_isStore 2 (some .boolean), Cond.methodLink RL 33 yX9_item, Cond.instanceMethod yX9_item, Cond.selects RX9 yX9_item yX9_item, Cond.code yX9_item cX9_item 3 (some .int), Cond.methodLink RX9 127 yX9_isNoItem, Cond.methodLink RX9 131 yX9_lacksItem, Cond.instanceMethod yX9_lacksItem, Cond.selects RX9 yX9_lacksItem yX9_lacksItem, Cond.code yX9_lacksItem cX9_lacksItem 2 (some .boolean), Cond.methodLink RX9 134 yX4_cell, Cond.methodLink RL 37 yX10_item, Cond.instanceMethod yX10_item]
def wsL_law_r18 : List Cond := [Cond.selects RX10 yX10_item yX10_item, Cond.code yX10_item cX10_item 3 (some .int), Cond.constantLong RX10 194 (39), Cond.methodLink RL 38 yX9_weather, Cond.instanceMethod yX9_weather, Cond.selects RX9 yX9_weather yX9_weather, Cond.code yX9_weather cX9_weather 6 (some .int), Cond.fieldLink RX9 138 "RiverModel$Sky" "rains" "[I", Cond.fieldLink RX9 141 "RiverModel$Sky" "temps" "[I", Cond.methodLink RL 42 yX10_weather, Cond.instanceMethod yX10_weather, Cond.selects RX10 yX10_weather yX10_weather, Cond.code yX10_weather cX10_weather 5 (some .int), Cond.constantLong RX10 198 (95), Cond.constantLong RX10 200 (-30), Cond.constantLong RX10 202 (40), Cond.methodLink RL 43 yX9_anew, Cond.instanceMethod yX9_anew, Cond.selects RX9 yX9_anew yX9_anew, Cond.code yX9_anew cX9_anew 2 (some .int), Cond.fieldLink RX9 144 "RiverModel$Course" "hours" "I", Cond.methodLink RL 46 yX10_anew, Cond.instanceMethod yX10_anew, Cond.selects RX10 yX10_anew yX10_anew]
def wsL_law_r19 : List Cond := [Cond.code yX10_anew cX10_anew 2 (some .int), Cond.methodLink RL 47 yX9_run, Cond.instanceMethod yX9_run, Cond.selects RX9 yX9_run yX9_run, Cond.code yX9_run cX9_run 3 (some .int), Cond.methodLink RX9 151 yX0_goHourBy, Cond.instanceMethod yX0_goHourBy, Cond.selects RX0 yX0_goHourBy yX0_goHourBy, Cond.code yX0_goHourBy cX0_goHourBy 3 none, Cond.methodLink RX0 60 yX6_rainIn, Cond.instanceMethod yX6_rainIn, Cond.selects RX6 yX6_rainIn yX6_rainIn, Cond.code yX6_rainIn cX6_rainIn 2 (some .int), Cond.methodLink RX0 65 yX6_tempIn, Cond.instanceMethod yX6_tempIn, Cond.selects RX6 yX6_tempIn yX6_tempIn, Cond.code yX6_tempIn cX6_tempIn 2 (some .int), Cond.methodLink RX0 68 yX0_goHour, Cond.instanceMethod yX0_goHour, Cond.selects RX0 yX0_goHour yX0_goHour, Cond.code yX0_goHour cX0_goHour 7 none, Cond.fieldLink RX0 75 "RiverModel$Model" "many" "I", Cond.methodLink RX0 72 yX0_bringDue, Cond.instanceMethod yX0_bringDue]
def wsL_law_r20 : List Cond := [Cond.selects RX0 yX0_bringDue yX0_bringDue, Cond.code yX0_bringDue cX0_bringDue 3 none, Cond.methodLink RX0 78 yX0_amountOf, Cond.instanceMethod yX0_amountOf, Cond.selects RX0 yX0_amountOf yX0_amountOf, Cond.code yX0_amountOf cX0_amountOf 11 (some .long), Cond.methodLink RX0 101 Lib.MathLoose.max_long.x, Cond.static Lib.MathLoose.max_long.x, Cond.initialized "java/lang/Math", Cond.code Lib.MathLoose.max_long.x Lib.MathLoose.max_long.code 4 (some .long), Cond.methodLink RX0 107 Lib.MathLoose.min_long.x, Cond.static Lib.MathLoose.min_long.x, Cond.code Lib.MathLoose.min_long.x Lib.MathLoose.min_long.code 4 (some .long), Cond.constantLong RX0 117 (100), Cond.constantLong RX0 119 (10), Cond.methodLink RX0 86 yX4_cell, Cond.methodLink RX0 94 yX0_leakOf, Cond.static yX0_leakOf, Cond.code yX0_leakOf cX0_leakOf 8 (some .long), Cond.methodLink RX0 98 yX4_capacityOf, Cond.instanceMethod yX4_capacityOf, Cond.selects RX4 yX4_capacityOf yX4_capacityOf, Cond.code yX4_capacityOf cX4_capacityOf 2 (some .int), Cond.methodLink RX0 110 yX4_gateOf]
def wsL_law_r21 : List Cond := [Cond.instanceMethod yX4_gateOf, Cond.selects RX4 yX4_gateOf yX4_gateOf, Cond.code yX4_gateOf cX4_gateOf 3 (some .int), Cond.methodLink RX0 113 yX0_openingOf, Cond.instanceMethod yX0_openingOf, Cond.selects RX0 yX0_openingOf yX0_openingOf, Cond.code yX0_openingOf cX0_openingOf 2 (some .long), Cond.static yX9_isNoGate, Cond.code yX9_isNoGate cX9_isNoGate 1 (some .boolean), Cond.methodLink RX0 82 yX0_move, Cond.instanceMethod yX0_move, Cond.selects RX0 yX0_move yX0_move, Cond.code yX0_move cX0_move 8 none, Cond.methodLink RX0 124 yX0_send, Cond.instanceMethod yX0_send, Cond.selects RX0 yX0_send yX0_send, Cond.code yX0_send cX0_send 5 none, Cond.methodLink RL 51 yX10_run, Cond.instanceMethod yX10_run, Cond.selects RX10 yX10_run yX10_run, Cond.code yX10_run cX10_run 3 (some .int), Cond.constantLong RX10 229 (96), Cond.methodLink RX10 231 yX10_goes, Cond.instanceMethod yX10_goes]
def wsL_law_r22 : List Cond := [Cond.selects RX10 yX10_goes yX10_goes, Cond.code yX10_goes cX10_goes 4 none, Cond.methodLink RX10 225 yX10_passes, Cond.instanceMethod yX10_passes, Cond.selects RX10 yX10_passes yX10_passes, Cond.code yX10_passes cX10_passes 12 none, Cond.methodLink RX10 221 yX10_moves, Cond.instanceMethod yX10_moves, Cond.selects RX10 yX10_moves yX10_moves, Cond.code yX10_moves cX10_moves 8 (some .long), Cond.constantLong RX10 219 (10), Cond.methodLink RX10 211 yX10_capacity, Cond.instanceMethod yX10_capacity, Cond.selects RX10 yX10_capacity yX10_capacity, Cond.code yX10_capacity cX10_capacity 3 (some .long), Cond.methodLink RX10 215 yX10_most, Cond.instanceMethod yX10_most, Cond.selects RX10 yX10_most yX10_most, Cond.code yX10_most cX10_most 4 (some .long), Cond.methodLink RL 52 yX9_has, Cond.instanceMethod yX9_has, Cond.selects RX9 yX9_has yX9_has, Cond.code yX9_has cX9_has 3 (some .long), Cond.constantLong RX9 158 (-1)]
def wsL_law_r23 : List Cond := [Cond.constantLong RX9 163 (-2), Cond.fieldLink RX9 165 "RiverModel$Course" "held" "[J", Cond.methodLink RX9 155 yX9_isNoStore, Cond.methodLink RX9 160 yX9_lacksStore, Cond.instanceMethod yX9_lacksStore, Cond.selects RX9 yX9_lacksStore yX9_lacksStore, Cond.code yX9_lacksStore cX9_lacksStore 2 (some .boolean), Cond.methodLink RX9 343 yX4_hasStore, Cond.methodLink RX9 169 yX0_underWayTo, Cond.instanceMethod yX0_underWayTo, Cond.selects RX0 yX0_underWayTo yX0_underWayTo, Cond.code yX0_underWayTo cX0_underWayTo 5 (some .long), Cond.methodLink RL 56 yX10_has, Cond.instanceMethod yX10_has, Cond.selects RX10 yX10_has yX10_has, Cond.code yX10_has cX10_has 3 (some .long), Cond.constantLong RX10 234 (15), Cond.constantLong RX10 236 (-1), Cond.constantLong RX10 238 (-2), Cond.methodLink RX10 240 yX10_wayTo, Cond.instanceMethod yX10_wayTo, Cond.selects RX10 yX10_wayTo yX10_wayTo, Cond.code yX10_wayTo cX10_wayTo 5 (some .long), Cond.methodLink RL 57 yX9_flow]
def wsL_law_r24 : List Cond := [Cond.instanceMethod yX9_flow, Cond.selects RX9 yX9_flow yX9_flow, Cond.code yX9_flow cX9_flow 2 (some .long), Cond.fieldLink RX9 173 "RiverModel$Course" "moved" "[J", Cond.methodLink RL 61 yX10_flow, Cond.instanceMethod yX10_flow, Cond.selects RX10 yX10_flow yX10_flow, Cond.code yX10_flow cX10_flow 2 (some .long), Cond.methodLink RL 62 yX9_gate, Cond.instanceMethod yX9_gate, Cond.selects RX9 yX9_gate yX9_gate, Cond.code yX9_gate cX9_gate 4 (some .int), Cond.fieldLink RX9 182 "RiverModel$Course" "openings" "[I", Cond.methodLink RX9 176 yX9_isNoGate, Cond.methodLink RX9 179 yX9_lacksGate, Cond.instanceMethod yX9_lacksGate, Cond.selects RX9 yX9_lacksGate yX9_lacksGate, Cond.code yX9_lacksGate cX9_lacksGate 2 (some .boolean), Cond.fieldLink RX9 333 "RiverModel$Model" "gates" "I", Cond.methodLink RL 65 yX10_gate, Cond.instanceMethod yX10_gate, Cond.selects RX10 yX10_gate yX10_gate, Cond.code yX10_gate cX10_gate 4 (some .int), Cond.constantLong RX10 243 (3)]
def wsL_law_r25 : List Cond := [Cond.methodLink RX10 245 yX10_ofKind, Cond.instanceMethod yX10_ofKind, Cond.selects RX10 yX10_ofKind yX10_ofKind, Cond.code yX10_ofKind cX10_ofKind 4 (some .int), Cond.methodLink RL 66 yX9_book, Cond.instanceMethod yX9_book, Cond.selects RX9 yX9_book yX9_book, Cond.code yX9_book cX9_book 2 (some .long), Cond.fieldLink RX9 185 "RiverModel$Course" "rained" "J", Cond.fieldLink RX9 189 "RiverModel$Course" "air" "J", Cond.fieldLink RX9 192 "RiverModel$Course" "sea" "J", Cond.methodLink RX9 195 yX0_heldByAll, Cond.instanceMethod yX0_heldByAll, Cond.selects RX0 yX0_heldByAll yX0_heldByAll, Cond.code yX0_heldByAll cX0_heldByAll 4 (some .long), Cond.methodLink RX9 199 yX0_underWayToAll, Cond.instanceMethod yX0_underWayToAll, Cond.selects RX0 yX0_underWayToAll yX0_underWayToAll, Cond.code yX0_underWayToAll cX0_underWayToAll 4 (some .long), Cond.methodLink RX9 202 yX4_startOfAll, Cond.instanceMethod yX4_startOfAll, Cond.selects RX4 yX4_startOfAll yX4_startOfAll, Cond.code yX4_startOfAll cX4_startOfAll 4 (some .long), Cond.methodLink RX4 90 yX4_startOf]
def wsL_law_r26 : List Cond := [Cond.methodLink RL 69 yX10_book, Cond.instanceMethod yX10_book, Cond.selects RX10 yX10_book yX10_book, Cond.code yX10_book cX10_book 9 (some .long), Cond.methodLink RL 70 yX9_gauge, Cond.instanceMethod yX9_gauge, Cond.selects RX9 yX9_gauge yX9_gauge, Cond.code yX9_gauge cX9_gauge 4 (some .int), Cond.methodLink RX9 205 yX9_isNoGauge, Cond.static yX9_isNoGauge, Cond.code yX9_isNoGauge cX9_isNoGauge 1 (some .boolean), Cond.methodLink RX9 208 yX1_set, Cond.instanceMethod yX1_set, Cond.selects RX1 yX1_set yX1_set, Cond.code yX1_set cX1_set 5 none, Cond.methodLink RL 74 yX10_gauge, Cond.instanceMethod yX10_gauge, Cond.selects RX10 yX10_gauge yX10_gauge, Cond.code yX10_gauge cX10_gauge 5 (some .int), Cond.methodLink RL 75 yX9_reads, Cond.instanceMethod yX9_reads, Cond.selects RX9 yX9_reads yX9_reads, Cond.code yX9_reads cX9_reads 2 (some .long), Cond.methodLink RX9 212 yX9_lacksGauge]
def wsL_law_r27 : List Cond := [Cond.instanceMethod yX9_lacksGauge, Cond.selects RX9 yX9_lacksGauge yX9_lacksGauge, Cond.code yX9_lacksGauge cX9_lacksGauge 2 (some .boolean), Cond.methodLink RX9 346 yX1_isSet, Cond.instanceMethod yX1_isSet, Cond.selects RX1 yX1_isSet yX1_isSet, Cond.code yX1_isSet cX1_isSet 2 (some .boolean), Cond.methodLink RX9 215 yX1_reading, Cond.instanceMethod yX1_reading, Cond.selects RX1 yX1_reading yX1_reading, Cond.code yX1_reading cX1_reading 4 (some .long), Cond.fieldLink RX1 41 "RiverModel$Course" "moved" "[J", Cond.fieldLink RX1 50 "RiverModel$Course" "held" "[J", Cond.methodLink RX1 35 yX1_isSet, Cond.methodLink RL 78 yX10_reads, Cond.instanceMethod yX10_reads, Cond.selects RX10 yX10_reads yX10_reads, Cond.code yX10_reads cX10_reads 2 (some .long), Cond.methodLink RX10 248 yX10_isSet, Cond.instanceMethod yX10_isSet, Cond.selects RX10 yX10_isSet yX10_isSet, Cond.code yX10_isSet cX10_isSet 2 (some .boolean), Cond.methodLink RX10 251 yX10_reading, Cond.instanceMethod yX10_reading]
def wsL_law_r28 : List Cond := [Cond.selects RX10 yX10_reading yX10_reading, Cond.code yX10_reading cX10_reading 2 (some .long), Cond.methodLink RL 79 yX9_see, Cond.instanceMethod yX9_see, Cond.selects RX9 yX9_see yX9_see, Cond.code yX9_see cX9_see 4 (some .int), Cond.constant RX9 219 (10000000), Cond.methodLink RX9 220 yX1_putSeen, Cond.instanceMethod yX1_putSeen, Cond.selects RX1 yX1_putSeen yX1_putSeen, Cond.code yX1_putSeen cX1_putSeen 5 (some .int), Cond.methodLink RL 82 yX10_see, Cond.instanceMethod yX10_see, Cond.selects RX10 yX10_see yX10_see, Cond.code yX10_see cX10_see 5 (some .int), Cond.constantLong RX10 254 (10000000), Cond.methodLink RL 83 yX9_ends, Cond.instanceMethod yX9_ends, Cond.selects RX9 yX9_ends yX9_ends, Cond.code yX9_ends cX9_ends 3 (some .int), Cond.constant RX9 224 (100000), Cond.fieldLink RX9 225 "RiverModel$Gauges" "mayBeOff" "I", Cond.methodLink RL 86 yX10_ends, Cond.instanceMethod yX10_ends]
def wsL_law_r29 : List Cond := [Cond.selects RX10 yX10_ends yX10_ends, Cond.code yX10_ends cX10_ends 3 (some .int), Cond.constantLong RX10 256 (100000), Cond.fieldLink RX10 258 "RiverModelModel" "ends" "I", Cond.methodLink RL 87 yX9_knob, Cond.instanceMethod yX9_knob, Cond.selects RX9 yX9_knob yX9_knob, Cond.code yX9_knob cX9_knob 7 (some .int), Cond.constant RX9 231 (1000000), Cond.methodLink RX9 228 yX9_isNoKnob, Cond.static yX9_isNoKnob, Cond.code yX9_isNoKnob cX9_isNoKnob 1 (some .boolean), Cond.methodLink RX9 232 yX4_hasNumber, Cond.instanceMethod yX4_hasNumber, Cond.selects RX4 yX4_hasNumber yX4_hasNumber, Cond.code yX4_hasNumber cX4_hasNumber 3 (some .boolean), Cond.methodLink RX4 86 yX2_numbersOf, Cond.methodLink RX9 236 yX3_set, Cond.instanceMethod yX3_set, Cond.selects RX3 yX3_set yX3_set, Cond.code yX3_set cX3_set 7 none, Cond.methodLink RL 91 yX10_knob, Cond.instanceMethod yX10_knob, Cond.selects RX10 yX10_knob yX10_knob]
def wsL_law_r30 : List Cond := [Cond.code yX10_knob cX10_knob 7 (some .int), Cond.constantLong RX10 261 (2), Cond.constantLong RX10 263 (16), Cond.methodLink RL 92 yX9_fits, Cond.instanceMethod yX9_fits, Cond.selects RX9 yX9_fits yX9_fits, Cond.code yX9_fits cX9_fits 4 (some .int), Cond.methodLink RX9 239 yX3_points, Cond.instanceMethod yX3_points, Cond.selects RX3 yX3_points yX3_points, Cond.code yX3_points cX3_points 1 (some .int), Cond.methodLink RX3 40 yX3_pointsOf, Cond.instanceMethod yX3_pointsOf, Cond.selects RX3 yX3_pointsOf yX3_pointsOf, Cond.code yX3_pointsOf cX3_pointsOf 2 (some .int), Cond.methodLink RX3 37 yX3_isSet, Cond.instanceMethod yX3_isSet, Cond.selects RX3 yX3_isSet yX3_isSet, Cond.code yX3_isSet cX3_isSet 2 (some .boolean), Cond.methodLink RX9 243 yX9_pointHolds, Cond.instanceMethod yX9_pointHolds, Cond.selects RX9 yX9_pointHolds yX9_pointHolds, Cond.code yX9_pointHolds cX9_pointHolds 4 (some .boolean), Cond.methodLink RX9 316 yX4_copyFrom]
def wsL_law_r31 : List Cond := [Cond.instanceMethod yX4_copyFrom, Cond.selects RX4 yX4_copyFrom yX4_copyFrom, Cond.code yX4_copyFrom cX4_copyFrom 2 none, Cond.methodLink RX4 37 arraycopyName, Cond.native arraycopyName, Cond.static arraycopyName, Cond.initialized "java/lang/System", Cond.methodLink RX9 350 yX3_lay, Cond.instanceMethod yX3_lay, Cond.selects RX3 yX3_lay yX3_lay, Cond.code yX3_lay cX3_lay 4 (some .boolean), Cond.methodLink RX3 50 yX4_hasNumber, Cond.methodLink RX3 56 yX3_numberAt, Cond.instanceMethod yX3_numberAt, Cond.selects RX3 yX3_numberAt yX3_numberAt, Cond.code yX3_numberAt cX3_numberAt 4 (some .int), Cond.methodLink RX3 44 Lib.Math.max.name, Cond.static Lib.Math.max.name, Cond.code Lib.Math.max.name Lib.Math.max.code 2 (some .int), Cond.methodLink RX3 59 yX4_putCell, Cond.methodLink RX3 63 yX4_isItemAsTold, Cond.instanceMethod yX4_isItemAsTold, Cond.selects RX4 yX4_isItemAsTold yX4_isItemAsTold, Cond.code yX4_isItemAsTold cX4_isItemAsTold 2 (some .boolean)]
def wsL_law_r32 : List Cond := [Cond.methodLink RX9 354 yX1_lastSeen, Cond.instanceMethod yX1_lastSeen, Cond.selects RX1 yX1_lastSeen yX1_lastSeen, Cond.code yX1_lastSeen cX1_lastSeen 3 (some .int), Cond.methodLink RX1 67 Lib.Math.max.name, Cond.methodLink RX9 357 yX6_rainIn, Cond.methodLink RX9 360 yX6_tempIn, Cond.methodLink RX9 363 yX0_goHour, Cond.methodLink RX9 367 yX1_agree, Cond.instanceMethod yX1_agree, Cond.selects RX1 yX1_agree yX1_agree, Cond.code yX1_agree cX1_agree 5 (some .boolean), Cond.methodLink RX1 61 Lib.MathLoose.abs_long.x, Cond.static Lib.MathLoose.abs_long.x, Cond.code Lib.MathLoose.abs_long.x Lib.MathLoose.abs_long.code 2 (some .long), Cond.methodLink RX1 57 yX1_reading, Cond.methodLink RL 95 yX10_fits, Cond.instanceMethod yX10_fits, Cond.selects RX10 yX10_fits yX10_fits, Cond.code yX10_fits cX10_fits 1 (some .int), Cond.methodLink RX10 286 yX10_fitsTo, Cond.instanceMethod yX10_fitsTo, Cond.selects RX10 yX10_fitsTo yX10_fitsTo, Cond.code yX10_fitsTo cX10_fitsTo 5 (some .int)]
def wsL_law_r33 : List Cond := [Cond.fieldLink RX10 283 "RiverModelModel" "point" "I", Cond.methodLink RX10 265 yX10_knobs, Cond.instanceMethod yX10_knobs, Cond.selects RX10 yX10_knobs yX10_knobs, Cond.code yX10_knobs cX10_knobs 2 (some .int), Cond.methodLink RX10 280 yX10_holds, Cond.instanceMethod yX10_holds, Cond.selects RX10 yX10_holds yX10_holds, Cond.code yX10_holds cX10_holds 9 (some .boolean), Cond.methodLink RX10 268 yX10_knobValue, Cond.instanceMethod yX10_knobValue, Cond.selects RX10 yX10_knobValue yX10_knobValue, Cond.code yX10_knobValue cX10_knobValue 4 (some .int), Cond.methodLink RX10 271 yX10_lastSeen, Cond.instanceMethod yX10_lastSeen, Cond.selects RX10 yX10_lastSeen yX10_lastSeen, Cond.code yX10_lastSeen cX10_lastSeen 3 (some .int), Cond.methodLink RX10 274 yX10_asides, Cond.instanceMethod yX10_asides, Cond.selects RX10 yX10_asides yX10_asides, Cond.code yX10_asides cX10_asides 2 none, Cond.methodLink RX10 277 yX10_returns, Cond.instanceMethod yX10_returns, Cond.selects RX10 yX10_returns yX10_returns]
def wsL_law_r34 : List Cond := [Cond.code yX10_returns cX10_returns 2 none, Cond.methodLink RL 96 yX9_fit, Cond.instanceMethod yX9_fit, Cond.selects RX9 yX9_fit yX9_fit, Cond.code yX9_fit cX9_fit 4 (some .int), Cond.methodLink RX9 246 yX3_isSet, Cond.methodLink RX9 249 yX9_holdingPoint, Cond.instanceMethod yX9_holdingPoint, Cond.selects RX9 yX9_holdingPoint yX9_holdingPoint, Cond.code yX9_holdingPoint cX9_holdingPoint 5 (some .int), Cond.methodLink RX9 253 yX3_numberAt, Cond.methodLink RL 99 yX10_fit, Cond.instanceMethod yX10_fit, Cond.selects RX10 yX10_fit yX10_fit, Cond.code yX10_fit cX10_fit 3 (some .int), Cond.methodLink RL 100 yX9_take, Cond.instanceMethod yX9_take, Cond.selects RX9 yX9_take yX9_take, Cond.code yX9_take cX9_take 2 (some .int), Cond.methodLink RL 103 yX10_take, Cond.instanceMethod yX10_take, Cond.selects RX10 yX10_take yX10_take, Cond.code yX10_take cX10_take 2 (some .int), Cond.methodLink RL 104 yX9_weigh]
def wsL_law_r35 : List Cond := [Cond.instanceMethod yX9_weigh, Cond.selects RX9 yX9_weigh yX9_weigh, Cond.code yX9_weigh cX9_weigh 4 (some .int), Cond.fieldLink RX9 259 "RiverModel$Worlds" "weights" "[I", Cond.methodLink RX9 256 yX9_isNoWorld, Cond.static yX9_isNoWorld, Cond.code yX9_isNoWorld cX9_isNoWorld 1 (some .boolean), Cond.methodLink RL 107 yX10_weigh, Cond.instanceMethod yX10_weigh, Cond.selects RX10 yX10_weigh yX10_weigh, Cond.code yX10_weigh cX10_weigh 4 (some .int), Cond.methodLink RL 108 yX9_rain, Cond.instanceMethod yX9_rain, Cond.selects RX9 yX9_rain yX9_rain, Cond.code yX9_rain cX9_rain 4 (some .int), Cond.methodLink RX9 262 yX8_putRain, Cond.instanceMethod yX8_putRain, Cond.selects RX8 yX8_putRain yX8_putRain, Cond.code yX8_putRain cX8_putRain 5 (some .int), Cond.methodLink RX8 21 yX8_rainAhead, Cond.instanceMethod yX8_rainAhead, Cond.selects RX8 yX8_rainAhead yX8_rainAhead, Cond.code yX8_rainAhead cX8_rainAhead 3 (some .int), Cond.methodLink RL 111 yX10_rain]
def wsL_law_r36 : List Cond := [Cond.instanceMethod yX10_rain, Cond.selects RX10 yX10_rain yX10_rain, Cond.code yX10_rain cX10_rain 5 (some .int), Cond.constantLong RX10 289 (23), Cond.methodLink RL 112 yX9_chance, Cond.instanceMethod yX9_chance, Cond.selects RX9 yX9_chance yX9_chance, Cond.code yX9_chance cX9_chance 5 (some .int), Cond.methodLink RX9 265 yX9_isBeyond, Cond.instanceMethod yX9_isBeyond, Cond.selects RX9 yX9_isBeyond yX9_isBeyond, Cond.code yX9_isBeyond cX9_isBeyond 2 (some .boolean), Cond.methodLink RX9 268 yX9_weightAbove, Cond.instanceMethod yX9_weightAbove, Cond.selects RX9 yX9_weightAbove yX9_weightAbove, Cond.code yX9_weightAbove cX9_weightAbove 8 (some .int), Cond.methodLink RX9 275 yX9_peakAhead, Cond.instanceMethod yX9_peakAhead, Cond.selects RX9 yX9_peakAhead yX9_peakAhead, Cond.code yX9_peakAhead cX9_peakAhead 9 (some .long), Cond.methodLink RX9 374 Lib.MathLoose.max_long.x, Cond.methodLink RX9 330 yX0_copyFrom, Cond.instanceMethod yX0_copyFrom, Cond.selects RX0 yX0_copyFrom yX0_copyFrom]
def wsL_law_r37 : List Cond := [Cond.code yX0_copyFrom cX0_copyFrom 2 none, Cond.methodLink RX0 54 arraycopyName, Cond.methodLink RX9 371 yX8_rainAhead, Cond.methodLink RL 116 yX10_chance, Cond.instanceMethod yX10_chance, Cond.selects RX10 yX10_chance yX10_chance, Cond.code yX10_chance cX10_chance 5 (some .int), Cond.constantLong RX10 295 (24), Cond.methodLink RX10 297 yX10_canSee, Cond.instanceMethod yX10_canSee, Cond.selects RX10 yX10_canSee yX10_canSee, Cond.code yX10_canSee cX10_canSee 3 (some .boolean), Cond.methodLink RX10 301 yX10_chanceOf, Cond.instanceMethod yX10_chanceOf, Cond.selects RX10 yX10_chanceOf yX10_chanceOf, Cond.code yX10_chanceOf cX10_chanceOf 7 (some .int), Cond.methodLink RX10 291 yX10_peakBy, Cond.instanceMethod yX10_peakBy, Cond.selects RX10 yX10_peakBy yX10_peakBy, Cond.code yX10_peakBy cX10_peakBy 9 (some .long), Cond.methodLink RL 117 yX9_warn, Cond.instanceMethod yX9_warn, Cond.selects RX9 yX9_warn yX9_warn, Cond.code yX9_warn cX9_warn 8 (some .int)]
def wsL_law_r38 : List Cond := [Cond.methodLink RX9 272 yX8_weightOfAll, Cond.instanceMethod yX8_weightOfAll, Cond.selects RX8 yX8_weightOfAll yX8_weightOfAll, Cond.code yX8_weightOfAll cX8_weightOfAll 3 (some .int), Cond.methodLink RX9 279 yX8_enter, Cond.instanceMethod yX8_enter, Cond.selects RX8 yX8_enter yX8_enter, Cond.code yX8_enter cX8_enter 3 none, Cond.methodLink RL 121 yX10_warn, Cond.instanceMethod yX10_warn, Cond.selects RX10 yX10_warn yX10_warn, Cond.code yX10_warn cX10_warn 9 (some .int), Cond.methodLink RL 122 yX9_booked, Cond.instanceMethod yX9_booked, Cond.selects RX9 yX9_booked yX9_booked, Cond.code yX9_booked cX9_booked 2 (some .int), Cond.fieldLink RX9 283 "RiverModel$Worlds" "warnings" "[I", Cond.methodLink RL 125 yX10_booked, Cond.instanceMethod yX10_booked, Cond.selects RX10 yX10_booked yX10_booked, Cond.code yX10_booked cX10_booked 2 (some .int), Cond.methodLink RL 126 yX9_peak, Cond.instanceMethod yX9_peak, Cond.selects RX9 yX9_peak yX9_peak]
def wsL_law_r39 : List Cond := [Cond.code yX9_peak cX9_peak 4 (some .long), Cond.methodLink RL 130 yX10_peak, Cond.instanceMethod yX10_peak, Cond.selects RX10 yX10_peak yX10_peak, Cond.code yX10_peak cX10_peak 4 (some .long), Cond.methodLink RL 131 yX9_best, Cond.instanceMethod yX9_best, Cond.selects RX9 yX9_best yX9_best, Cond.code yX9_best cX9_best 8 (some .long), Cond.fieldLink RX9 294 "RiverModel$Search" "isFound" "Z", Cond.constantLong RX9 297 (-4), Cond.fieldLink RX9 299 "RiverModel$Search" "leastPeak" "J", Cond.fieldLink RX9 302 "RiverModel$Search" "found" "[I", Cond.methodLink RX9 286 yX5_prepare, Cond.instanceMethod yX5_prepare, Cond.selects RX5 yX5_prepare yX5_prepare, Cond.code yX5_prepare cX5_prepare 7 none, Cond.instanceMethod yX5_tryBlock, Cond.selects RX5 yX5_tryBlock yX5_tryBlock, Cond.code yX5_tryBlock cX5_tryBlock 12 none, Cond.constantLong RX5 61 (-1), Cond.methodLink RX5 53 yX0_copyFrom, Cond.methodLink RX5 57 yX5_peakOfBlock, Cond.instanceMethod yX5_peakOfBlock]
def wsL_law_r40 : List Cond := [Cond.selects RX5 yX5_peakOfBlock yX5_peakOfBlock, Cond.code yX5_peakOfBlock cX5_peakOfBlock 11 (some .long), Cond.fieldLink RX5 78 "RiverModel$Course" "openings" "[I", Cond.fieldLink RX5 81 "RiverModel$Course" "hours" "I", Cond.fieldLink RX5 97 "RiverModel$Course" "held" "[J", Cond.methodLink RX5 107 Lib.MathLoose.max_long.x, Cond.methodLink RX5 84 yX6_rainIn, Cond.methodLink RX5 90 yX6_tempIn, Cond.methodLink RX5 93 yX0_goHour, Cond.methodLink RX5 101 yX1_reading, Cond.methodLink RX5 63 yX5_takeTried, Cond.instanceMethod yX5_takeTried, Cond.selects RX5 yX5_takeTried yX5_takeTried, Cond.code yX5_takeTried cX5_takeTried 3 none, Cond.methodLink RX5 113 arraycopyName, Cond.methodLink RX5 67 yX5_tryBlock, Cond.methodLink RL 135 yX10_best, Cond.instanceMethod yX10_best, Cond.selects RX10 yX10_best yX10_best, Cond.code yX10_best cX10_best 14 (some .long), Cond.constantLong RX10 305 (6), Cond.constantLong RX10 311 (-4), Cond.methodLink RX10 307 yX10_byOpenings, Cond.instanceMethod yX10_byOpenings]
def wsL_law_r41 : List Cond := [Cond.selects RX10 yX10_byOpenings yX10_byOpenings, Cond.code yX10_byOpenings cX10_byOpenings 14 (some .long), Cond.methodLink RL 136 yX9_swap, Cond.instanceMethod yX9_swap, Cond.selects RX9 yX9_swap yX9_swap, Cond.code yX9_swap cX9_swap 2 (some .int), Cond.fieldLink RX9 309 "RiverModel$Text" "row" "[I", Cond.methodLink RX9 305 yX7_readAlone, Cond.instanceMethod yX7_readAlone, Cond.selects RX7 yX7_readAlone yX7_readAlone, Cond.code yX7_readAlone cX7_readAlone 1 (some .boolean), Cond.methodLink RX9 312 yX4_mayReplace, Cond.instanceMethod yX4_mayReplace, Cond.selects RX4 yX4_mayReplace yX4_mayReplace, Cond.code yX4_mayReplace cX4_mayReplace 4 (some .boolean), Cond.methodLink RX9 319 yX4_put, Cond.methodLink RL 139 yX10_swap, Cond.instanceMethod yX10_swap, Cond.selects RX10 yX10_swap yX10_swap, Cond.code yX10_swap cX10_swap 5 (some .int), Cond.methodLink RL 140 yX9_swapped, Cond.instanceMethod yX9_swapped, Cond.selects RX9 yX9_swapped yX9_swapped, Cond.code yX9_swapped cX9_swapped 9 (some .long)]
def wsL_law_r42 : List Cond := [Cond.methodLink RL 143 yX10_swapped, Cond.instanceMethod yX10_swapped, Cond.selects RX10 yX10_swapped yX10_swapped, Cond.code yX10_swapped cX10_swapped 8 (some .long), Cond.methodLink RL 144 yX9_laySwap, Cond.instanceMethod yX9_laySwap, Cond.selects RX9 yX9_laySwap yX9_laySwap, Cond.code yX9_laySwap cX9_laySwap 1 (some .int), Cond.methodLink RL 147 yX10_laySwap, Cond.instanceMethod yX10_laySwap, Cond.selects RX10 yX10_laySwap yX10_laySwap, Cond.code yX10_laySwap cX10_laySwap 1 (some .int), Cond.methodLink RL 148 yX9_startB, Cond.instanceMethod yX9_startB, Cond.selects RX9 yX9_startB yX9_startB, Cond.code yX9_startB cX9_startB 4 (some .int), Cond.methodLink RL 151 yX10_startB, Cond.instanceMethod yX10_startB, Cond.selects RX10 yX10_startB yX10_startB, Cond.code yX10_startB cX10_startB 4 (some .int), Cond.methodLink RL 152 yX9_blame, Cond.instanceMethod yX9_blame, Cond.selects RX9 yX9_blame yX9_blame, Cond.code yX9_blame cX9_blame 4 (some .long)]
def wsL_law_r43 : List Cond := [Cond.constantLong RX9 323 (-1000000000000000000), Cond.constantLong RX9 325 (-1000000000000000001), Cond.methodLink RX9 327 yX9_changedReading, Cond.instanceMethod yX9_changedReading, Cond.selects RX9 yX9_changedReading yX9_changedReading, Cond.code yX9_changedReading cX9_changedReading 7 (some .long), Cond.methodLink RX9 380 yX0_startFrom, Cond.instanceMethod yX0_startFrom, Cond.selects RX0 yX0_startFrom yX0_startFrom, Cond.code yX0_startFrom cX0_startFrom 3 none, Cond.methodLink RL 155 yX10_blame, Cond.instanceMethod yX10_blame, Cond.selects RX10 yX10_blame yX10_blame, Cond.code yX10_blame cX10_blame 12 (some .long), Cond.constantLong RX10 313 (-1000000000000000000), Cond.constantLong RX10 315 (-1000000000000000001), Cond.methodLink RX10 317 yX10_trial, Cond.instanceMethod yX10_trial, Cond.selects RX10 yX10_trial yX10_trial, Cond.code yX10_trial cX10_trial 8 (some .long), Cond.methodLink RL 156 yX9_keep, Cond.instanceMethod yX9_keep, Cond.selects RX9 yX9_keep yX9_keep, Cond.code yX9_keep cX9_keep 1 (some .int)]
def wsL_law_r44 : List Cond := [Cond.methodLink RL 159 yX10_keep, Cond.instanceMethod yX10_keep, Cond.selects RX10 yX10_keep yX10_keep, Cond.code yX10_keep cX10_keep 2 (some .int), Cond.methodLink RL 160 yX9_back, Cond.instanceMethod yX9_back, Cond.selects RX9 yX9_back yX9_back, Cond.code yX9_back cX9_back 1 (some .int), Cond.methodLink RL 163 yX10_back, Cond.instanceMethod yX10_back, Cond.selects RX10 yX10_back yX10_back, Cond.code yX10_back cX10_back 2 (some .int), Cond.methodLink RL 164 yX9_count, Cond.instanceMethod yX9_count, Cond.selects RX9 yX9_count yX9_count, Cond.code yX9_count cX9_count 2 (some .int), Cond.methodLink RX9 336 yX3_setMany, Cond.instanceMethod yX3_setMany, Cond.selects RX3 yX3_setMany yX3_setMany, Cond.code yX3_setMany cX3_setMany 1 (some .int), Cond.methodLink RX9 339 yX1_setMany, Cond.instanceMethod yX1_setMany, Cond.selects RX1 yX1_setMany yX1_setMany, Cond.code yX1_setMany cX1_setMany 3 (some .int)]
def wsL_law_r45 : List Cond := [Cond.methodLink RX9 340 yX1_seenMany, Cond.instanceMethod yX1_seenMany, Cond.selects RX1 yX1_seenMany yX1_seenMany, Cond.code yX1_seenMany cX1_seenMany 3 (some .int), Cond.methodLink RL 167 yX10_count, Cond.instanceMethod yX10_count, Cond.selects RX10 yX10_count yX10_count, Cond.code yX10_count cX10_count 5 (some .int)]
def wsL_law : List Cond := (wsL_law_r1 ++ (wsL_law_r2 ++ (wsL_law_r3 ++ (wsL_law_r4 ++ (wsL_law_r5 ++ (wsL_law_r6 ++ (wsL_law_r7 ++ (wsL_law_r8 ++ (wsL_law_r9 ++ (wsL_law_r10 ++ (wsL_law_r11 ++ (wsL_law_r12 ++ (wsL_law_r13 ++ (wsL_law_r14 ++ (wsL_law_r15 ++ (wsL_law_r16 ++ (wsL_law_r17 ++ (wsL_law_r18 ++ (wsL_law_r19 ++ (wsL_law_r20 ++ (wsL_law_r21 ++ (wsL_law_r22 ++ (wsL_law_r23 ++ (wsL_law_r24 ++ (wsL_law_r25 ++ (wsL_law_r26 ++ (wsL_law_r27 ++ (wsL_law_r28 ++ (wsL_law_r29 ++ (wsL_law_r30 ++ (wsL_law_r31 ++ (wsL_law_r32 ++ (wsL_law_r33 ++ (wsL_law_r34 ++ (wsL_law_r35 ++ (wsL_law_r36 ++ (wsL_law_r37 ++ (wsL_law_r38 ++ (wsL_law_r39 ++ (wsL_law_r40 ++ (wsL_law_r41 ++ (wsL_law_r42 ++ (wsL_law_r43 ++ (wsL_law_r44 ++ wsL_law_r45)))))))))))))))))))))))))))))))))))))))))))) ++ wsX90 ++ wsX100 ++ wsX70 ++ wsX40 ++ wsX60 ++ wsX00 ++ wsX10 ++ wsX30 ++ wsX80 ++ wsX50 ++ ([] : List Cond)
abbrev vwCl : List vw_C := [(RX0, TX0, 8), (RX1, TX1, 4), (RX3, TX3, 5), (RX4, TX4, 6), (RX5, TX5, 10), (RX6, TX6, 2), (RX7, TX7, 4), (RX8, TX8, 3), (RX9, TX9, 18), (RX10, TX10, 36)]
end
section
/-! typed heaps: an address has a kind (0: none of ours); every cell of a kind is as the kind says. Own rows. -/
def tvIsNest : Cond → Bool
  | .methodLinkNest _ _ _ _ => true
  | _ => false
def tvN : List Cond := [.methodLinkNest RX9 9 yX7_init RX9, .methodLinkNest RX9 18 yX4_init RX9, .methodLinkNest RX9 52 yX0_init RX9, .methodLinkNest RX9 80 yX3_init RX9, .methodLinkNest RX9 87 yX8_init RX9, .methodLinkNest RX5 48 yX0_init RX9, .methodLinkNest RX7 68 yX9_isNoStore RX9, .methodLinkNest RX7 74 yX9_isOutside RX9, .methodLinkNest RX4 43 yX9_isNoItem RX9, .methodLinkNest RX4 47 yX9_isOutside RX9, .methodLinkNest RX4 59 yX9_isNoStore RX9, .methodLinkNest RX6 24 yX9_isOutside RX9, .methodLinkNest RX0 90 yX9_isNoStore RX9, .methodLinkNest RX0 121 yX9_isNoGate RX9, .methodLinkNest RX0 128 yX9_isOutside RX9, .methodLinkNest RX1 31 yX9_isNoGauge RX9, .methodLinkNest RX1 38 yX9_isNoItem RX9, .methodLinkNest RX1 47 yX9_isNoStore RX9, .methodLinkNest RX1 53 yX9_isOutside RX9, .methodLinkNest RX3 33 yX9_isNoKnob RX9, .methodLinkNest RX8 25 yX9_isNoWorld RX9, .methodLinkNest RX8 29 yX9_isOutside RX9, .methodLinkNest RX9 290 yX5_tryBlock RX9, .methodLinkNest RX5 49 yX9_isOutside RX9, .methodLinkNest RX5 71 yX9_isNoGate RX9, .methodLinkNest RX5 75 yX9_isNoStore RX9]
theorem tvN_nest : tvN.all tvIsNest = true := by decide +kernel
def tvW (U : State) : Prop := ∀ w ∈ tvN, va_Nw w U
theorem tvW.warm {s U : State} (hW : s.WarmedH U.vm) (h : tvW s) : tvW U := by
  intro w hw
  have h1 := List.all_eq_true.mp tvN_nest w hw
  have h2 := h w hw
  cases w <;> first | (exact va_Nw.warmM hW h2) | (simp [tvIsNest] at h1)
theorem tvW.same {u U : State} (h : u.vm = U.vm) (hZ : tvW u) : tvW U := by
  intro w hw
  have h1 := List.all_eq_true.mp tvN_nest w hw
  have h2 := hZ w hw
  cases w <;> first | (exact va_Nw.same rfl h h2) | (simp [tvIsNest] at h1)
abbrev tvK (cI cL cC : ClassId) : List (ClassId × FieldType) := [(cI, .int), (cL, .long), (cC, .object RX0)]
def EV (D : va_G) (cI cL cC : ClassId) (U : State) : Prop := va_K D vwCl (tvK cI cL cC) U ∧ tvW U ∧ va_AO RX0 U
theorem EV.warm {D : va_G} {cI cL cC : ClassId} {s U : State} (hW : s.WarmedH U.vm) (h : EV D cI cL cC s) : EV D cI cL cC U := ⟨va_K.moved hW.alike h.1, h.2.1.warm hW, va_AO.moved hW.alike h.2.2⟩
theorem EV.calling {D : va_G} {cI cL cC : ClassId} {U : State} {g : JFrame} {mk : MethodId} {a : Array Value} (h : EV D cI cL cC U) : EV D cI cL cC (U.calling g mk a) := ⟨va_K.moved (u := U) (U := U.calling g mk a) (Vm.Alike.refl U.vm) h.1, tvW.same (u := U) (U := U.calling g mk a) rfl h.2.1, va_AO.moved (u := U) (U := U.calling g mk a) (Vm.Alike.refl U.vm) h.2.2⟩
abbrev tFT : Type := (Nat → Nat) → Nat → va_E → Prop
def tG (D : va_G) (F : tFT) (t : Nat → Nat) (H : Heap) : Prop := ∀ a : Nat, t a ≠ 0 → ∃ e : va_E, va_at D vwCl (a, e) H ∧ F t (t a) e
def tF (t : Nat → Nat) (wr : Nat → Bool) (H0 H : Heap) (locs : List Loc) : Prop := H.size = H0.size ∧ (∀ q : Nat, wr (t q) = false → H[q]? = H0[q]?) ∧ ∀ l ∈ locs, wr (t l.base) = true
theorem tF.rf {t : Nat → Nat} {wr : Nat → Bool} {H : Heap} : tF t wr H H [] := ⟨rfl, fun _ _ => rfl, fun _ h => by cases h⟩
theorem va_one {D : va_G} {cl : List vw_C} {q : Nat × va_E} {H : Heap} (h : va_at D cl q H) : va_P D cl [q] H := fun k x hk => by
  cases k with
  | zero => cases hk; exact h
  | succ k => simp at hk
theorem tG.set {D : va_G} {F : tFT} {t : Nat → Nat} {H H1 : Heap} {a : Nat} {e : va_E} (hG : tG D F t H) (hat : va_at D vwCl (a, e) H1) (hF : F t (t a) e) (oq : ∀ q : Nat, q ≠ a → H1[q]? = H[q]?) : tG D F t H1 := fun b hb => by
  by_cases h : b = a
  · subst h; exact ⟨e, hat, hF⟩
  · obtain ⟨e', h1, h2⟩ := hG b hb
    exact ⟨e', h1.kept (oq b h), h2⟩
theorem tG.weak {D : va_G} {F F2 : tFT} {t : Nat → Nat} {H : Heap} (hG : tG D F t H) (h : ∀ k e, F t k e → F2 t k e) : tG D F2 t H := fun b hb => by
  obtain ⟨e', h1, h2⟩ := hG b hb
  exact ⟨e', h1, h _ _ h2⟩
theorem tF.put {t : Nat → Nat} {wr : Nat → Bool} {H0 H H1 : Heap} {locs : List Loc} {a k : Nat} (h : tF t wr H0 H locs) (z : H1.size = H.size) (oq : ∀ q : Nat, q ≠ a → H1[q]? = H[q]?) (hw : wr (t a) = true) : tF t wr H0 H1 (locs ++ [⟨a, k⟩]) := by
  refine ⟨z.trans h.1, fun q hq => ?_, fun l hl => ?_⟩
  · have : q ≠ a := fun e => by rw [e, hw] at hq; cases hq
    exact (oq q this).trans (h.2.1 q hq)
  · rcases List.mem_append.mp hl with h1 | h1
    · exact h.2.2 l h1
    · rw [List.mem_singleton.mp h1]; exact hw
/-- a cell of another kind stays -/
theorem va_at.keptK {D : va_G} {t : Nat → Nat} {H H1 : Heap} {a b : Nat} {e : va_E} (h : va_at D vwCl (b, e) H) (oq : ∀ q : Nat, q ≠ a → H1[q]? = H[q]?) {ka kb : Nat} (ha : t a = ka) (hb : t b = kb) (hne : (kb == ka) = false) : va_at D vwCl (b, e) H1 :=
  h.kept (oq b (fun he => by subst he; rw [← ha, ← hb] at hne; simp at hne))
/-- a cell of a kind that a callee doesn't write stays -/
theorem va_at.keptC {D : va_G} {t : Nat → Nat} {wr : Nat → Bool} {H H1 : Heap} {b : Nat} {e : va_E} (h : va_at D vwCl (b, e) H) (oq : ∀ q : Nat, wr (t q) = false → H1[q]? = H[q]?) {kb : Nat} (hb : t b = kb) (hne : wr kb = false) : va_at D vwCl (b, e) H1 :=
  h.kept (oq b (by rw [hb]; exact hne))
section TY
variable {p : Program} {l : Launch} {e : Env} {R : Room} {s : State} {m : MethodId} {args : Array Value} {below : List Frame} {meth : Method} {c : Code} {H : Heap} {locs : List Loc} {cells slots : Nat} {Q : State → Prop}
variable {cc : ByteArray} {pc : Nat} {ls : Array Slot} {rest : List Value} {D : va_G} {F F2 : tFT} {t : Nat → Nat} {wr wr2 : Nat → Bool} {a : Nat} {tys : List (ClassId × FieldType)} {H0 : Heap}
theorem lv_seti {x y : Int32} (h : x = y) (k : W p l e R s m args below meth c H locs cells slots Q (F0 m pc ls (.int y :: rest))) : W p l e R s m args below meth c H locs cells slots Q (F0 m pc ls (.int x :: rest)) := h ▸ k
theorem lv_pc {pc2 : Nat} (h : pc = pc2) (k : W p l e R s m args below meth c H locs cells slots Q (F0 m pc2 ls rest)) : W p l e R s m args below meth c H locs cells slots Q (F0 m pc ls rest) := h ▸ k
theorem lv_setl {x y : Int64} (h : x = y) (k : W p l e R s m args below meth c H locs cells slots Q (F0 m pc ls (.long y :: rest))) : W p l e R s m args below meth c H locs cells slots Q (F0 m pc ls (.long x :: rest)) := h ▸ k
theorem ty_put (hexec : p.tables.exec = Jvm.exec) (hb : c.code = cc) {own ref C : String} {T : u_T} {N ci index : Nat} {Ts : List Cond} (hts : ∀ w ∈ Ts, w.before args s = true) (hin : ∀ w ∈ u_ws C T N, w ∈ Ts) (ty0 : Nat → FieldType) (hty : ∀ k, k < N → parseFieldDescriptor (T k).2.2.1 = some (ty0 k)) (hnm : ∀ a, a < N → ∀ b, b < N → a ≠ b → (T a).2.1 ≠ (T b).2.1) (hown : s.vm.findClass own = some m.cls) (hK : va_K D vwCl tys s) (hG : tG D F t H) (hS : tF t wr H0 H locs) {fs : List Value} (hat : va_at D vwCl (a, .inr (ci, fs)) H) (hw : wr (t a) = true) (hc : vwCl[ci]? = some (C, T, N)) (k : Nat) (hk : k < N) (hlink : (Cond.fieldLink own index ref (T k).2.1 (T k).2.2.1).before args s = true) (hsame : ∀ x, s.fieldFound? (T k).1 (T k).2.1 (T k).2.2.1 = some x → s.fieldFound? ref (T k).2.1 (T k).2.2.1 = some x) (hfin : (T k).2.2.2 = false) {ty : FieldType} {v : Value} (hd : parseFieldDescriptor (T k).2.2.1 = some ty) (hn : narrow ty v = v) (hfit : fits ty v = true) (hl : k < fs.length)
    (hF : F2 t (t a) (.inr (ci, fs.set k v))) (hFF : tG D F t H → ∀ b, b ≠ a → t b ≠ 0 → ∃ e, va_at D vwCl (b, e) H ∧ F2 t (t b) e) (hdg : decode cc pc = .ok (.putfield index, 3)) (kk : ∀ (H1 : Heap) (locs1 : List Loc), tG D F2 t H1 → tF t wr H0 H1 locs1 → va_at D vwCl (a, .inr (ci, fs.set k v)) H1 → (∀ q : Nat, q ≠ a → H1[q]? = H[q]?) → W p l e R s m args below meth c H1 locs1 cells slots Q (F0 m (pc + 3) ls rest)) : W p l e R s m args below meth c H locs cells slots Q (F0 m pc ls (v :: .ref a :: rest)) := by
  have hap := va_apart (own := own) hts hin ty0 hty hnm hK hc
  obtain ⟨r, h1, cell, q1, q2, q3, q4⟩ := hat
  have hr : r = (C, T, N) := Option.some.inj (h1.symm.trans hc)
  subst hr
  obtain ⟨hSl, hfc, kC, hkC, hkind⟩ := hK.1 ci _ hc
  obtain ⟨cf, kf, fi, f, hi, hsl⟩ := hSl k hk
  have hlay := hts _ (hin _ (u_in_lay hk))
  unfold u_lay at hlay
  rw [if_neg (by rw [hfin]; decide)] at hlay
  have hst := (u_facts hfc hkC (u_lays hts hin hk) hi).1
  have h6 := u_store hfc hkC hkind hlay hi hd hn hfit
  refine W.putK hexec hb (f := f) ⟨hown, hlink, ⟨_, _, _, hsame _ hi⟩, hst⟩ (by rw [q2]; exact h6) q1 q3 (by rw [hsl]; exact k2_hasslot (q4 k hk)) rfl rfl hdg fun H' e1 e2 e3 => ?_
  rw [hsl] at e1 ⊢
  have hat' : va_at D vwCl (a, .inr (ci, fs.set k v)) H' := ⟨_, hc, t_OB.to (V := updV (vp_V fs) k v) ⟨_, e1, q2, q3, t_set q4 hap hk v⟩ (fun j _ => vp_updV_set hl v j)⟩
  refine kk H' _ (fun b hb0 => ?_) (hS.put e2 e3 hw) hat' e3
  by_cases h : b = a
  · subst h; exact ⟨_, hat', hF⟩
  · obtain ⟨e', g1, g2⟩ := hFF hG b h hb0
    exact ⟨e', g1.kept (e3 b h), g2⟩
theorem ty_iast (hexec : p.tables.exec = Jvm.exec) (hb : c.code = cc) (hK : va_K D vwCl tys s) (hG : tG D F t H) (hS : tF t wr H0 H locs) (t0 : Nat) {cA : ClassId} {n : Nat} {f : Nat → Int32} (hat : va_at D vwCl (a, .inl (cA, n, .inl f)) H) (hw : wr (t a) = true) (ht : tys[t0]? = some (cA, .int)) {i : Int32} {x : Int32} (hin : vp_in i n) (hF : F2 t (t a) (.inl (cA, n, .inl (upd f i.toNatClampNeg x)))) (hFF : tG D F t H → ∀ b, b ≠ a → t b ≠ 0 → ∃ e, va_at D vwCl (b, e) H ∧ F2 t (t b) e) (hdg : decode cc pc = .ok (.iastore, 1))
    (kk : ∀ (H1 : Heap) (locs1 : List Loc), tG D F2 t H1 → tF t wr H0 H1 locs1 → va_at D vwCl (a, .inl (cA, n, .inl (upd f i.toNatClampNeg x))) H1 → (∀ q : Nat, q ≠ a → H1[q]? = H[q]?) → W p l e R s m args below meth c H1 locs1 cells slots Q (F0 m (pc + 1) ls rest)) : W p l e R s m args below meth c H locs cells slots Q (F0 m pc ls (.int x :: .int i :: .ref a :: rest)) := by
  refine W.iast hexec hb hat ((hK.2 t0 _ ht).1 n (fun j => .int (f j))) (fun q => by cases q) (by show ¬ (i < 0 ∨ (arrV _ _ _).slots.size ≤ _); rw [arrV_size]; exact hin) rfl rfl hdg fun H1 e z oq => ?_
  have hat' : va_at D vwCl (a, .inl (cA, n, .inl (upd f i.toNatClampNeg x))) H1 := by
    show H1[a]? = some (vp_cell _ _)
    rw [e]
    rw [vp_cell_i, vp_cell_i, arrV_store]
    congr 2
    funext q
    by_cases hq : q = i.toNatClampNeg
    · subst hq
      simp [updV, upd]
    · simp [updV, upd, hq]
  refine kk H1 _ (fun b hb0 => ?_) (hS.put z oq hw) hat' oq
  by_cases h : b = a
  · subst h; exact ⟨_, hat', hF⟩
  · obtain ⟨e', g1, g2⟩ := hFF hG b h hb0
    exact ⟨e', g1.kept (oq b h), g2⟩
theorem ty_last (hexec : p.tables.exec = Jvm.exec) (hb : c.code = cc) (hK : va_K D vwCl tys s) (hG : tG D F t H) (hS : tF t wr H0 H locs) (t0 : Nat) {cA : ClassId} {n : Nat} {f : Nat → Int64} (hat : va_at D vwCl (a, .inl (cA, n, .inr (.inl f))) H) (hw : wr (t a) = true) (ht : tys[t0]? = some (cA, .long)) {i : Int32} {x : Int64} (hin : vp_in i n) (hF : F2 t (t a) (.inl (cA, n, .inr (.inl (vp_updL f i.toNatClampNeg x))))) (hFF : tG D F t H → ∀ b, b ≠ a → t b ≠ 0 → ∃ e, va_at D vwCl (b, e) H ∧ F2 t (t b) e) (hdg : decode cc pc = .ok (.lastore, 1))
    (kk : ∀ (H1 : Heap) (locs1 : List Loc), tG D F2 t H1 → tF t wr H0 H1 locs1 → va_at D vwCl (a, .inl (cA, n, .inr (.inl (vp_updL f i.toNatClampNeg x)))) H1 → (∀ q : Nat, q ≠ a → H1[q]? = H[q]?) → W p l e R s m args below meth c H1 locs1 cells slots Q (F0 m (pc + 1) ls rest)) : W p l e R s m args below meth c H locs cells slots Q (F0 m pc ls (.long x :: .int i :: .ref a :: rest)) := by
  refine W.last hexec hb hat ((hK.2 t0 _ ht).1 n (fun j => .long (f j))) (fun q => by cases q) (by show ¬ (i < 0 ∨ (arrV _ _ _).slots.size ≤ _); rw [arrV_size]; exact hin) rfl rfl hdg fun H1 e z oq => ?_
  have hat' : va_at D vwCl (a, .inl (cA, n, .inr (.inl (vp_updL f i.toNatClampNeg x)))) H1 := by
    show H1[a]? = some (vp_cell _ _)
    rw [e]
    rw [vp_cell_l, vp_cell_l, arrV_store]
    congr 2
    funext q
    by_cases hq : q = i.toNatClampNeg
    · subst hq
      simp [updV, vp_updL]
    · simp [updV, vp_updL, hq]
  refine kk H1 _ (fun b hb0 => ?_) (hS.put z oq hw) hat' oq
  by_cases h : b = a
  · subst h; exact ⟨_, hat', hF⟩
  · obtain ⟨e', g1, g2⟩ := hFF hG b h hb0
    exact ⟨e', g1.kept (oq b h), g2⟩
/-- the rest of the cells as they were -/
theorem tFF {D : va_G} {F : tFT} {t : Nat → Nat} {H : Heap} {a : Nat} : tG D F t H → ∀ b, b ≠ a → t b ≠ 0 → ∃ e, va_at D vwCl (b, e) H ∧ F t (t b) e := fun h b _ hb => h b hb
end TY
/-! contracts of methods over typed heaps -/
def tP (D : va_G) (F : tFT) (t : Nat → Nat) (cI cL cC : ClassId) (av : List Value) : Array Value → State → Prop := va_Pc av (fun U => tG D F t U.heap ∧ EV D cI cL cC U)
def tQ (D : va_G) (F2 : tFT) (t : Nat → Nat) (wr : Nat → Bool) (post : Option Value → Prop) : Array Value → State → Outcome → State → Prop := fun _ st oc u => (∃ v, oc = .returned v ∧ post v) ∧ tG D F2 t u.heap ∧ u.heap.size = st.heap.size ∧ ∀ q : Nat, wr (t q) = false → u.heap[q]? = st.heap[q]?
abbrev pI (post : Int32 → Prop) : Option Value → Prop := fun v => ∃ r : Int32, v = some (.int r) ∧ post r
abbrev pL (post : Int64 → Prop) : Option Value → Prop := fun v => ∃ r : Int64, v = some (.long r) ∧ post r
abbrev pV (post : Prop) : Option Value → Prop := fun v => v = none ∧ post
abbrev tM (l : Launch) (y : MethodName) (ws : List Cond) (fr lo : Nat) (D : va_G) (F F2 : tFT) (t : Nat → Nat) (cI cL cC : ClassId) (av : List Value) (wr : Nat → Bool) (post : Option Value → Prop) : Prop := Met l y ws ({ frames := fr, cells := 0, slots := 0, locals := lo }) (tP D F t cI cL cC av) (tQ D F2 t wr post) 0 0 (fun q => wr (t q) = true)
theorem tM.ofW {l : Launch} {y : MethodName} {ws ws' : List Cond} {fr lo : Nat} {D : va_G} {F F2 : tFT} {t : Nat → Nat} {cI cL cC : ClassId} {av : List Value} {wr : Nat → Bool} {post : Option Value → Prop} {cc : ByteArray} {maxL : Nat} {ret : Option FieldType} (hy : plainName y.cls = true) (hw : ws = Cond.code y cc maxL ret :: ws') (hle : (lg_sl av).length ≤ maxL)
    (body : ∀ (p : Program) (e : Env) (s : State) (m : MethodId) (below : List Frame) (meth : Method) (c : Code), p.tables.exec = Jvm.exec → c.code = cc → meth.sig.returnType = ret → c.maxLocals = maxL → s.vm.findClass y.cls = some m.cls → (∀ w ∈ ws, w.before av.toArray s = true) → meth.locks = false → tG D F t s.heap → va_K D vwCl (tvK cI cL cC) s → EV D cI cL cC s → tF t wr s.heap s.heap [] → ∀ ls : Array Slot, lv_has ls maxL (lv_args 0 av) →
      W p l e ({ frames := fr, cells := 0, slots := 0, locals := lo }) s m av.toArray below meth c s.heap [] 0 0 (MQ below (tQ D F2 t wr post) av.toArray s 0 0 (fun q => wr (t q) = true)) (F0 m 0 ls [])) : tM l y ws fr lo D F F2 t cI cL cC av wr post := by
  refine Met.ofW (cc := cc) (maxL := maxL) (ret := ret) hy hw ?_
  intro p e s m args below meth c s₁ B hml hv
  obtain ⟨rfl, hG, hE⟩ := hv
  have hl := lv_entry av (n := maxL) hle
  rw [lg_entry_eq]
  exact body p e s m below meth c B.exec B.bytes B.returns hml (findClass_of_methodNamed B.named) (atoms_spec (ws := ws) B.pre) B.notSynchronized hG hE.1 hE tF.rf _ hl
section TC
variable {p : Program} {l : Launch} {e : Env} {R : Room} {s : State} {m : MethodId} {args : Array Value} {below : List Frame} {meth : Method} {c : Code} {H : Heap} {locs : List Loc} {cells slots : Nat} {Q : State → Prop}
variable {cc : ByteArray} {pc : Nat} {ls : Array Slot} {rest st0 : List Value} {D : va_G} {F F2 : tFT} {t : Nat → Nat} {wr wr2 : Nat → Bool} {a : Nat} {tys : List (ClassId × FieldType)} {H0 : Heap} {cI cL cC : ClassId} {av : List Value} {ar : Array Value}
theorem tP_blind : FrameBlind (tP D F t cI cL cC av) := fun _ _ _ _ q => ⟨q.1, q.2.1, q.2.2.calling⟩
theorem tP_S (hG : tG D F t H) (hE : EV D cI cL cC s) : PreS s H (tP D F t cI cL cC av) av := ⟨tP_blind, fun U hU hW => ⟨rfl, by rw [hU]; exact hG, hE.warm hW⟩⟩
theorem tP_V (hG : tG D F t H) (hE : EV D cI cL cC s) {C : String} {T : u_T} {N ci b : Nat} {fs As : List Value} (hat : va_at D vwCl (b, .inr (ci, fs)) H) (hc : vwCl[ci]? = some (C, T, N)) : PreV s H C b (tP D F t cI cL cC (.ref b :: As)) As :=
  ⟨tP_blind, va_recv hE.1 (va_one hat) hc (q0 := 0) rfl, fun U hU hW => ⟨rfl, by rw [hU]; exact hG, hE.warm hW⟩⟩
theorem ty_run {post : Option Value → Prop} (hr : CallRun p l e R s m args below meth c H locs cells slots 0 0 (F0 m pc ls st0) rest (tQ D F2 t wr2 post ar) (fun q => wr2 (t q) = true)) (hS : tF t wr H0 H locs) (hsub : ∀ k, wr2 k = true → wr k = true)
    (kk : ∀ (v : Option Value) (H1 : Heap) (locs1 : List Loc), post v → tG D F2 t H1 → tF t wr H0 H1 locs1 → (∀ q : Nat, wr2 (t q) = false → H1[q]? = H[q]?) → W p l e R s m args below meth c H1 locs1 cells slots Q (F0 m (pc + 3) ls (v.toList ++ rest))) : W p l e R s m args below meth c H locs cells slots Q (F0 m pc ls st0) := by
  intro T hT X
  obtain ⟨v, st₀, u, T', L, h0, X', hL, e1, ⟨⟨v', hv, hp⟩, hG, hz, hk⟩, st⟩ := hr T hT X
  cases hv
  rw [h0] at hz hk
  obtain ⟨t2, a1, b1⟩ := kk v u.heap (locs ++ L) hp hG ⟨hz.trans hS.1, fun q hq => (hk q (by cases h : wr2 (t q) with | false => rfl | true => rw [hsub _ h] at hq; cases hq)).trans (hS.2.1 q hq), fun x hx => by
      rcases List.mem_append.mp hx with h | h
      · exact hS.2.2 x h
      · exact hsub _ (hL x h)⟩ hk T' e1 X'
  exact ⟨t2, st t2 a1, b1⟩
theorem ty_calli {post : Int32 → Prop} (hr : CallRun p l e R s m args below meth c H locs cells slots 0 0 (F0 m pc ls st0) rest (tQ D F2 t wr2 (pI post) ar) (fun q => wr2 (t q) = true)) (hS : tF t wr H0 H locs) (hsub : ∀ k, wr2 k = true → wr k = true)
    (kk : ∀ (r : Int32) (H1 : Heap) (locs1 : List Loc), post r → tG D F2 t H1 → tF t wr H0 H1 locs1 → (∀ q : Nat, wr2 (t q) = false → H1[q]? = H[q]?) → W p l e R s m args below meth c H1 locs1 cells slots Q (F0 m (pc + 3) ls (.int r :: rest))) : W p l e R s m args below meth c H locs cells slots Q (F0 m pc ls st0) :=
  ty_run hr hS hsub (fun v H1 locs1 hp h1 h2 h3 => by obtain ⟨r, rfl, hp⟩ := hp; exact kk r H1 locs1 hp h1 h2 h3)
theorem ty_calll {post : Int64 → Prop} (hr : CallRun p l e R s m args below meth c H locs cells slots 0 0 (F0 m pc ls st0) rest (tQ D F2 t wr2 (pL post) ar) (fun q => wr2 (t q) = true)) (hS : tF t wr H0 H locs) (hsub : ∀ k, wr2 k = true → wr k = true)
    (kk : ∀ (r : Int64) (H1 : Heap) (locs1 : List Loc), post r → tG D F2 t H1 → tF t wr H0 H1 locs1 → (∀ q : Nat, wr2 (t q) = false → H1[q]? = H[q]?) → W p l e R s m args below meth c H1 locs1 cells slots Q (F0 m (pc + 3) ls (.long r :: rest))) : W p l e R s m args below meth c H locs cells slots Q (F0 m pc ls st0) :=
  ty_run hr hS hsub (fun v H1 locs1 hp h1 h2 h3 => by obtain ⟨r, rfl, hp⟩ := hp; exact kk r H1 locs1 hp h1 h2 h3)
theorem ty_callv {post : Prop} (hr : CallRun p l e R s m args below meth c H locs cells slots 0 0 (F0 m pc ls st0) rest (tQ D F2 t wr2 (pV post) ar) (fun q => wr2 (t q) = true)) (hS : tF t wr H0 H locs) (hsub : ∀ k, wr2 k = true → wr k = true)
    (kk : ∀ (H1 : Heap) (locs1 : List Loc), post → tG D F2 t H1 → tF t wr H0 H1 locs1 → (∀ q : Nat, wr2 (t q) = false → H1[q]? = H[q]?) → W p l e R s m args below meth c H1 locs1 cells slots Q (F0 m (pc + 3) ls rest)) : W p l e R s m args below meth c H locs cells slots Q (F0 m pc ls st0) :=
  ty_run hr hS hsub (fun v H1 locs1 hp h1 h2 h3 => by obtain ⟨rfl, hp⟩ := hp; exact kk H1 locs1 hp h1 h2 h3)
/-- a va_Run is a CallRun -/
theorem tRun {mc ms : Nat} {g : JFrame} {Qa : State → Outcome → State → Prop} {free : Addr → Prop} (h : va_Run p l e R s m args below meth c H locs cells slots mc ms g rest Qa free) : CallRun p l e R s m args below meth c H locs cells slots mc ms g rest Qa free := by
  intro T hT X
  obtain ⟨v, st₀, u, T', L, h0, X', hL, e1, -, hq, st⟩ := h T hT X
  exact ⟨v, st₀, u, T', L, h0, X', hL, e1, hq, st⟩
theorem ty_iret {post : Int32 → Prop} {v : Int32} (hexec : p.tables.exec = Jvm.exec) (hb : c.code = cc) (hr : meth.sig.returnType = some .int) (hlocks : meth.locks = false) (hG : tG D F2 t H) (hS : tF t wr s.heap H locs) (hp : post v) (hdg : decode cc pc = .ok (.ireturn, 1)) : W p l e R s m args below meth c H locs cells slots (MQ below (tQ D F2 t wr (pI post)) args s cells slots (fun q => wr (t q) = true)) (F0 m pc ls [.int v]) :=
  W.iret hexec hb hr (fun u hu _ => ⟨⟨_, rfl, v, rfl, hp⟩, by rw [hu]; exact hG, by rw [hu]; exact hS.1, by rw [hu]; exact hS.2.1⟩) hS.2.2 hdg hlocks
theorem ty_zret {post : Int32 → Prop} {v : Int32} (hexec : p.tables.exec = Jvm.exec) (hb : c.code = cc) (hr : meth.sig.returnType = some .boolean) (hlocks : meth.locks = false) (hn : narrow .boolean (.int v) = .int v) (hG : tG D F2 t H) (hS : tF t wr s.heap H locs) (hp : post v) (hdg : decode cc pc = .ok (.ireturn, 1)) : W p l e R s m args below meth c H locs cells slots (MQ below (tQ D F2 t wr (pI post)) args s cells slots (fun q => wr (t q) = true)) (F0 m pc ls [.int v]) :=
  W.zret hexec hb hr hn (fun u hu _ => ⟨⟨_, rfl, v, rfl, hp⟩, by rw [hu]; exact hG, by rw [hu]; exact hS.1, by rw [hu]; exact hS.2.1⟩) hS.2.2 hdg hlocks
theorem ty_lret {post : Int64 → Prop} {v : Int64} (hexec : p.tables.exec = Jvm.exec) (hb : c.code = cc) (hr : meth.sig.returnType = some .long) (hlocks : meth.locks = false) (hG : tG D F2 t H) (hS : tF t wr s.heap H locs) (hp : post v) (hdg : decode cc pc = .ok (.lreturn, 1)) : W p l e R s m args below meth c H locs cells slots (MQ below (tQ D F2 t wr (pL post)) args s cells slots (fun q => wr (t q) = true)) (F0 m pc ls [.long v]) :=
  W.lret hexec hb hr (fun u hu _ => ⟨⟨_, rfl, v, rfl, hp⟩, by rw [hu]; exact hG, by rw [hu]; exact hS.1, by rw [hu]; exact hS.2.1⟩) hS.2.2 hdg hlocks
theorem ty_vret {post : Prop} (hexec : p.tables.exec = Jvm.exec) (hb : c.code = cc) (hr : meth.sig.returnType = none) (hlocks : meth.locks = false) (hG : tG D F2 t H) (hS : tF t wr s.heap H locs) (hp : post) (hdg : decode cc pc = .ok (.return_, 1)) : W p l e R s m args below meth c H locs cells slots (MQ below (tQ D F2 t wr (pV post)) args s cells slots (fun q => wr (t q) = true)) (F0 m pc ls []) :=
  W.vret hexec hb hr (fun u hu _ => ⟨⟨_, rfl, rfl, hp⟩, by rw [hu]; exact hG, by rw [hu]; exact hS.1, by rw [hu]; exact hS.2.1⟩) hS.2.2 hdg hlocks
end TC
/-! Int facts out of comparisons -/
theorem q_lt {x y : Int32} (h : x < y) : x.toInt < y.toInt := Int32.lt_iff_toInt_lt.mp h
theorem q_nlt {x y : Int32} (h : ¬ x < y) : y.toInt ≤ x.toInt := by rw [Int32.lt_iff_toInt_lt] at h; omega
theorem q_le {x y : Int32} (h : x ≤ y) : x.toInt ≤ y.toInt := Int32.le_iff_toInt_le.mp h
theorem q_nle {x y : Int32} (h : ¬ x ≤ y) : y.toInt < x.toInt := by rw [Int32.le_iff_toInt_le] at h; omega
theorem q_eq {x y : Int32} (h : x = y) : x.toInt = y.toInt := by rw [h]
theorem q_ne {x y : Int32} (h : ¬ x = y) : x.toInt ≠ y.toInt := fun q => h (Int32.toInt_inj.mp q)
theorem qL_lt {x y : Int64} (h : x < y) : x.toInt < y.toInt := Int64.lt_iff_toInt_lt.mp h
theorem qL_nlt {x y : Int64} (h : ¬ x < y) : y.toInt ≤ x.toInt := by rw [Int64.lt_iff_toInt_lt] at h; omega
theorem qL_le {x y : Int64} (h : x ≤ y) : x.toInt ≤ y.toInt := Int64.le_iff_toInt_le.mp h
theorem qL_nle {x y : Int64} (h : ¬ x ≤ y) : y.toInt < x.toInt := by rw [Int64.le_iff_toInt_le] at h; omega
theorem qL_eq {x y : Int64} (h : x = y) : x.toInt = y.toInt := by rw [h]
theorem qL_ne {x y : Int64} (h : ¬ x = y) : x.toInt ≠ y.toInt := fun q => h (Int64.toInt_inj.mp q)
theorem q_i2l (x : Int32) : x.toInt64.toInt = x.toInt := Int32.toInt_toInt64 x
theorem q_rng (x : Int32) : -2147483648 ≤ x.toInt ∧ x.toInt ≤ 2147483647 := by
  have h1 := Int32.le_toInt x
  have h2 := Int32.toInt_lt x
  omega
theorem q_in {x : Int32} {n : Nat} (h0 : 0 ≤ x.toInt) (h1 : x.toInt < n) : vp_in x n := vp_in_iff.mpr ⟨h0, h1⟩
theorem q_cmp_lt {x y : Int64} (h : lg_cmp x y < 0) : x.toInt < y.toInt := qL_lt ((lg_cmp_lt x y).mp h)
theorem q_cmp_nlt {x y : Int64} (h : ¬ lg_cmp x y < 0) : y.toInt ≤ x.toInt := qL_nlt (fun q => h ((lg_cmp_lt x y).mpr q))
theorem q_cmp_le {x y : Int64} (h : lg_cmp x y ≤ 0) : x.toInt ≤ y.toInt := qL_le ((lg_cmp_le x y).mp h)
theorem q_cmp_nle {x y : Int64} (h : ¬ lg_cmp x y ≤ 0) : y.toInt < x.toInt := qL_nle (fun q => h ((lg_cmp_le x y).mpr q))
theorem q_cmp_eq {x y : Int64} (h : lg_cmp x y = 0) : x.toInt = y.toInt := qL_eq ((lg_cmp_eq x y).mp h)
theorem q_cmp_ne {x y : Int64} (h : ¬ lg_cmp x y = 0) : x.toInt ≠ y.toInt := qL_ne (fun q => h ((lg_cmp_eq x y).mpr q))
theorem q_cmp_ge {x y : Int64} (h : 0 ≤ lg_cmp x y) : y.toInt ≤ x.toInt := qL_le ((lg_cmp_ge x y).mp h)
theorem q_cmp_nge {x y : Int64} (h : ¬ 0 ≤ lg_cmp x y) : x.toInt < y.toInt := qL_nle (fun q => h ((lg_cmp_ge x y).mpr q))
theorem q_cmp_gt {x y : Int64} (h : 0 < lg_cmp x y) : y.toInt < x.toInt := qL_lt ((lg_cmp_gt x y).mp h)
theorem q_cmp_ngt {x y : Int64} (h : ¬ 0 < lg_cmp x y) : x.toInt ≤ y.toInt := qL_nlt (fun q => h ((lg_cmp_gt x y).mpr q))
theorem q_inlt {i : Int32} {n : Nat} (h : vp_in i n) : i.toNatClampNeg < n := Nat.not_le.mp fun q => h (Or.inr q)
theorem q_add {x y : Int32} (h1 : -2147483648 ≤ x.toInt + y.toInt) (h2 : x.toInt + y.toInt ≤ 2147483647) : (x + y).toInt = x.toInt + y.toInt := by
  rw [Int32.toInt_add]
  exact Int.bmod_eq_of_le (by omega) (by omega)
theorem q_sub {x y : Int32} (h1 : -2147483648 ≤ x.toInt - y.toInt) (h2 : x.toInt - y.toInt ≤ 2147483647) : (x - y).toInt = x.toInt - y.toInt := by
  rw [Int32.toInt_sub]
  exact Int.bmod_eq_of_le (by omega) (by omega)
theorem q_mul {x y : Int32} (h1 : -2147483648 ≤ x.toInt * y.toInt) (h2 : x.toInt * y.toInt ≤ 2147483647) : (x * y).toInt = x.toInt * y.toInt := by
  rw [Int32.toInt_mul]
  exact Int.bmod_eq_of_le (by omega) (by omega)
theorem q_updall {f : Nat → Int32} {n i : Nat} {x : Int32} (h : ∀ j : Nat, j < n → f j = x) : ∀ j : Nat, j < n → upd f i x j = x := fun j hj => by
  unfold upd
  split
  · rfl
  · exact h j hj
def wr0 : Nat → Bool := fun _ => false
def wrX : Nat → Bool := fun k => Nat.blt 0 k && Nat.blt k 40
def wrM : Nat → Bool := fun k => Nat.ble 40 k
def wrA : Nat → Bool := fun k => Nat.blt 0 k
theorem wrX_wrA : ∀ k, wrX k = true → wrA k = true := fun k h => by simp [wrX, wrA] at h ⊢; exact h.1
theorem wrM_wrA : ∀ k, wrM k = true → wrA k = true := fun k h => by simp [wrM, wrA] at h ⊢; omega
end
section
/-! constructors: cells are made one behind the other, at addresses h0, h0 + 1, ..; a stretch of cells of given kinds. Own rows. -/
def cF (b : Nat) (H0 H : Heap) (locs : List Loc) : Prop := H0.size ≤ H.size ∧ (∀ q : Nat, q < b → H[q]? = H0[q]?) ∧ ∀ l ∈ locs, b ≤ l.base
theorem cF.rf {b : Nat} {H : Heap} : cF b H H [] := ⟨Nat.le_refl _, fun _ _ => rfl, fun _ h => by cases h⟩
theorem cF.put {b : Nat} {H0 H H1 : Heap} {locs : List Loc} {a k : Nat} (h : cF b H0 H locs) (z : H1.size = H.size) (oq : ∀ q : Nat, q ≠ a → H1[q]? = H[q]?) (hb : b ≤ a) : cF b H0 H1 (locs ++ [⟨a, k⟩]) := by
  refine ⟨by rw [z]; exact h.1, fun q hq => (oq q (by omega)).trans (h.2.1 q hq), fun x hx => ?_⟩
  rcases List.mem_append.mp hx with h1 | h1
  · exact h.2.2 x h1
  · rw [List.mem_singleton.mp h1]; exact hb
theorem cF.new {b z : Nat} {H0 H H1 : Heap} {locs : List Loc} (h : cF b H0 H locs) (hz : H.size = z) (hz1 : H1.size = z + 1) (o : ∀ q : Nat, q < z → H1[q]? = H[q]?) (hb : b ≤ z) : cF b H0 H1 locs :=
  ⟨by have := h.1; omega, fun q hq => (o q (by omega)).trans (h.2.1 q hq), h.2.2⟩
def tS (D : va_G) (F : tFT) (KL : List Nat) (b : Nat) (H : Heap) : Prop := ∀ i : Nat, i < KL.length → ∃ e : va_E, va_at D vwCl (b + i, e) H ∧ ∀ t : Nat → Nat, (∀ j : Nat, j < KL.length → t (b + j) = KL.getD j 0) → F t (KL.getD i 0) e
theorem tS.nil {D : va_G} {F : tFT} {b : Nat} {H : Heap} : tS D F [] b H := fun i h => absurd h (Nat.not_lt_zero i)
theorem tS.kept {D : va_G} {F : tFT} {KL : List Nat} {b : Nat} {H H1 : Heap} (h : tS D F KL b H) (o : ∀ q : Nat, b ≤ q → q < b + KL.length → H1[q]? = H[q]?) : tS D F KL b H1 := fun i hi => by
  obtain ⟨e, h1, h2⟩ := h i hi
  exact ⟨e, h1.kept (o (b + i) (by omega) (by omega)), h2⟩
theorem tS.app {D : va_G} {F : tFT} {K1 K2 : List Nat} {b : Nat} {H : Heap} (h1 : tS D F K1 b H) (h2 : tS D F K2 (b + K1.length) H) : tS D F (K1 ++ K2) b H := fun i hi => by
  rw [List.length_append] at hi
  by_cases h : i < K1.length
  · obtain ⟨e, a1, a2⟩ := h1 i h
    refine ⟨e, a1, fun t ht => ?_⟩
    have e1 : (K1 ++ K2).getD i 0 = K1.getD i 0 := by simp [List.getD, List.getElem?_append_left h]
    rw [e1]
    refine a2 t (fun j hj => ?_)
    have := ht j (by rw [List.length_append]; omega)
    rw [this]
    simp [List.getD, List.getElem?_append_left hj]
  · obtain ⟨e, a1, a2⟩ := h2 (i - K1.length) (by omega)
    have ei : b + K1.length + (i - K1.length) = b + i := by omega
    rw [ei] at a1
    refine ⟨e, a1, fun t ht => ?_⟩
    have e1 : (K1 ++ K2).getD i 0 = K2.getD (i - K1.length) 0 := by simp [List.getD, List.getElem?_append_right (Nat.not_lt.mp h)]
    rw [e1]
    refine a2 t (fun j hj => ?_)
    have := ht (K1.length + j) (by rw [List.length_append]; omega)
    rw [show b + K1.length + j = b + (K1.length + j) by omega, this]
    simp [List.getD, List.getElem?_append_right (Nat.le_add_right K1.length j)]
theorem tS.cons {D : va_G} {F : tFT} {k : Nat} {KL : List Nat} {b : Nat} {H : Heap} {e : va_E} (h0 : va_at D vwCl (b, e) H) (h : tS D F KL (b + 1) H) (hF : ∀ t : Nat → Nat, t b = k → (∀ j : Nat, j < KL.length → t (b + (j + 1)) = KL.getD j 0) → F t k e) : tS D F (k :: KL) b H := fun i hi => by
  cases i with
  | zero => exact ⟨e, h0, fun t ht => hF t (ht 0 (by simp)) (fun j hj => ht (j + 1) (by simp; omega))⟩
  | succ i =>
    obtain ⟨e', a1, a2⟩ := h i (by simp at hi; omega)
    refine ⟨e', by rw [show b + (i + 1) = b + 1 + i by omega]; exact a1, fun t ht => a2 t (fun j hj => ?_)⟩
    rw [show b + 1 + j = b + (j + 1) by omega]
    exact ht (j + 1) (by simp; omega)
def tK2 (KL : List Nat) (b : Nat) : Nat → Nat := fun a => if a < b then 0 else KL.getD (a - b) 0
theorem tK2_at (KL : List Nat) (b j : Nat) : tK2 KL b (b + j) = KL.getD j 0 := by
  unfold tK2
  rw [if_neg (by omega), Nat.add_sub_cancel_left]
theorem tS.good {D : va_G} {F : tFT} {KL : List Nat} {b : Nat} {H : Heap} (h : tS D F KL b H) : tG D F (tK2 KL b) H := fun a ha => by
  by_cases hb : a < b
  · simp [tK2, hb] at ha
  · have e1 : a = b + (a - b) := by omega
    by_cases hl : a - b < KL.length
    · obtain ⟨e, a1, a2⟩ := h (a - b) hl
      refine ⟨e, by rw [e1]; exact a1, ?_⟩
      rw [show tK2 KL b a = KL.getD (a - b) 0 by rw [e1, tK2_at]; simp]
      exact a2 _ (fun j _ => tK2_at KL b j)
    · exfalso
      apply ha
      simp [tK2, hb, List.getD, List.getElem?_eq_none (Nat.not_lt.mp hl)]
def cP (D : va_G) (cI cL cC : ClassId) (ci : Nat) (raw : List Value) (h0 : Nat) : Array Value → State → Prop := va_Pc [.ref h0] (fun U => U.heap.size = h0 + 1 ∧ va_at D vwCl (h0, .inr (ci, raw)) U.heap ∧ EV D cI cL cC U)
def cQ (D : va_G) (F : tFT) (KL : List Nat) (h0 : Nat) : Array Value → State → Outcome → State → Prop := fun _ st oc u => oc = .returned none ∧ tS D F KL h0 u.heap ∧ u.heap.size = h0 + KL.length ∧ ∀ q : Nat, q < h0 → u.heap[q]? = st.heap[q]?
/-- fill, and other methods that change one row alone -/
def rP (D : va_G) (cI cL cC : ClassId) (av : List Value) (a : Nat) (e : va_E) : Array Value → State → Prop := va_Pc av (fun U => va_at D vwCl (a, e) U.heap ∧ EV D cI cL cC U)
def rQ (D : va_G) (a : Nat) (post : va_E → Prop) : Array Value → State → Outcome → State → Prop := fun _ st oc u => oc = .returned none ∧ (∃ e, va_at D vwCl (a, e) u.heap ∧ post e) ∧ u.heap.size = st.heap.size ∧ ∀ q : Nat, q ≠ a → u.heap[q]? = st.heap[q]?
section NW
variable {p : Program} {l : Launch} {e : Env} {R : Room} {s : State} {m : MethodId} {args : Array Value} {below : List Frame} {meth : Method} {c : Code} {H : Heap} {locs : List Loc} {cells slots : Nat} {Q : State → Prop}
variable {cc : ByteArray} {pc : Nat} {ls : Array Slot} {rest st0 : List Value} {D : va_G} {F F2 : tFT} {a b z : Nat} {H0 : Heap} {cI cL cC : ClassId} {av : List Value} {ar : Array Value} {tys : List (ClassId × FieldType)}
theorem cP_I {ci : Nat} {raw : List Value} {h0 : Nat} (hz : H.size = h0 + 1) (hat : va_at D vwCl (h0, .inr (ci, raw)) H) (hE : EV D cI cL cC s) : PreS s H (cP D cI cL cC ci raw h0) [.ref h0] := ⟨fun _ _ _ _ q => ⟨q.1, q.2.1, q.2.2.1, q.2.2.2.calling⟩, fun U hU hW => ⟨rfl, by rw [hU]; exact hz, by rw [hU]; exact hat, hE.warm hW⟩⟩
theorem rP_S {ee : va_E} (hat : va_at D vwCl (a, ee) H) (hE : EV D cI cL cC s) : PreS s H (rP D cI cL cC av a ee) av := ⟨fun _ _ _ _ q => ⟨q.1, q.2.1, q.2.2.calling⟩, fun U hU hW => ⟨rfl, by rw [hU]; exact hat, hE.warm hW⟩⟩
theorem nw_new (hexec : p.tables.exec = Jvm.exec) (hb : c.code = cc) {own C : String} {T : u_T} {N ci index : Nat} {Ts : List Cond} (hts : ∀ w ∈ Ts, w.before args s = true) (hin : ∀ w ∈ u_ws C T N, w ∈ Ts) (ty : Nat → FieldType) (hty : ∀ k, k < N → parseFieldDescriptor (T k).2.2.1 = some (ty k)) (hown : s.vm.findClass own = some m.cls) (hcl : (Cond.classLink own index C).before args s = true) (hinst : (Cond.instantiable C N).before args s = true) (hini : (Cond.initialized C).before args s = true)
    (hK : va_K D vwCl tys s) (hc : vwCl[ci]? = some (C, T, N)) {fs : List Value} (hfs : ∀ j, j < N → defaultValue (ty j) = vp_V fs j) (hS : cF b H0 H locs) (hz : H.size = z) (hbz : b ≤ z) (hcells : cells + 1 ≤ R.cells) (hslots : slots + N ≤ R.slots) (hdg : decode cc pc = .ok (.new index, 3))
    (kk : ∀ H1 : Heap, va_at D vwCl (z, .inr (ci, fs)) H1 → H1.size = z + 1 → (∀ q : Nat, q < z → H1[q]? = H[q]?) → cF b H0 H1 locs →
      W p l e R s m args below meth c H1 locs (cells + 1) (slots + N) Q (F0 m (pc + 3) ls (.ref z :: rest))) : W p l e R s m args below meth c H locs cells slots Q (F0 m pc ls rest) := by
  have hKn := hK.1 ci _ hc
  refine W.newcK hexec hb hown hcl hinst hini rfl hdg hcells hslots hKn.2.1 hz fun H1 kC hkC e1 z1 o1 => ?_
  exact kk H1 ⟨_, hc, (u_born ty hts hin hKn hkC e1 hty).to hfs⟩ z1 o1 (hS.new hz z1 o1 hbz)
theorem nw_newI (hexec : p.tables.exec = Jvm.exec) (hb : c.code = cc) (harr : (Cond.arrayClass .int).before args s = true) (hK : va_K D vwCl (tvK cI cL cC) s) (hS : cF b H0 H locs) (hz : H.size = z) (hbz : b ≤ z)
    {n : Int32} {N : Nat} (hn : ¬ n < 0) (hN : n.toNatClampNeg = N) (hbytes : N * componentBytes .int ≤ 536870912) (hcells : cells + 1 ≤ R.cells) (hslots : slots + N ≤ R.slots) (hdg : decode cc pc = .ok (.newarray .int, 2))
    (kk : ∀ H1 : Heap, va_at D vwCl (z, .inl (cI, N, .inl (fun _ => 0))) H1 → H1.size = z + 1 → (∀ q : Nat, q < z → H1[q]? = H[q]?) → cF b H0 H1 locs →
      W p l e R s m args below meth c H1 locs (cells + 1) (slots + N) Q (F0 m (pc + 2) ls (.ref z :: rest))) : W p l e R s m args below meth c H locs cells slots Q (F0 m pc ls (.int n :: rest)) := by
  refine va_newaK (atype := .int) hexec hb harr rfl hdg rfl hn hN hbytes hcells hslots hz fun H1 cA e1 z1 o1 hAr hNm => ?_
  have hc : cA = cI := Option.some.inj (hNm.symm.trans (hK.2 0 _ rfl).2)
  subst hc
  exact kk H1 e1 z1 o1 (hS.new hz z1 o1 hbz)
theorem nw_newL (hexec : p.tables.exec = Jvm.exec) (hb : c.code = cc) (harr : (Cond.arrayClass .long).before args s = true) (hK : va_K D vwCl (tvK cI cL cC) s) (hS : cF b H0 H locs) (hz : H.size = z) (hbz : b ≤ z)
    {n : Int32} {N : Nat} (hn : ¬ n < 0) (hN : n.toNatClampNeg = N) (hbytes : N * componentBytes .long ≤ 536870912) (hcells : cells + 1 ≤ R.cells) (hslots : slots + N ≤ R.slots) (hdg : decode cc pc = .ok (.newarray .long, 2))
    (kk : ∀ H1 : Heap, va_at D vwCl (z, .inl (cL, N, .inr (.inl (fun _ => 0)))) H1 → H1.size = z + 1 → (∀ q : Nat, q < z → H1[q]? = H[q]?) → cF b H0 H1 locs →
      W p l e R s m args below meth c H1 locs (cells + 1) (slots + N) Q (F0 m (pc + 2) ls (.ref z :: rest))) : W p l e R s m args below meth c H locs cells slots Q (F0 m pc ls (.int n :: rest)) := by
  refine va_newaK (atype := .long) hexec hb harr rfl hdg rfl hn hN hbytes hcells hslots hz fun H1 cA e1 z1 o1 hAr hNm => ?_
  have hc : cA = cL := Option.some.inj (hNm.symm.trans (hK.2 1 _ rfl).2)
  subst hc
  exact kk H1 e1 z1 o1 (hS.new hz z1 o1 hbz)
theorem nw_newq (hexec : p.tables.exec = Jvm.exec) (hb : c.code = cc) {own : String} {index : Nat} (hown : s.vm.findClass own = some m.cls) (hclink : (Cond.classLink own index RX0).before args s = true) (hE : EV D cI cL cC s) (hS : cF b H0 H locs) (hz : H.size = z) (hbz : b ≤ z)
    {n : Int32} {N : Nat} (hn : ¬ n < 0) (hN : n.toNatClampNeg = N) (hbytes : N * 4 ≤ 536870912) (hcells : cells + 1 ≤ R.cells) (hslots : slots + N ≤ R.slots) (hdg : decode cc pc = .ok (.anewarray index, 3))
    (kk : ∀ H1 : Heap, va_at D vwCl (z, .inl (cC, N, .inr (.inr (.inr (.inr (fun _ => none)))))) H1 → H1.size = z + 1 → (∀ q : Nat, q < z → H1[q]? = H[q]?) → cF b H0 H1 locs →
      W p l e R s m args below meth c H1 locs (cells + 1) (slots + N) Q (F0 m (pc + 3) ls (.ref z :: rest))) : W p l e R s m args below meth c H locs cells slots Q (F0 m pc ls (.int n :: rest)) := by
  subst hN
  subst hz
  refine W.anew hexec hb hown hclink (va_AO.use hE.2.2) rfl hdg rfl hn hbytes hcells hslots fun cA kA comp f1 f2 f3 f4 => ?_
  obtain ⟨kA', comp', k1, k2, k3, k4⟩ := (hE.1.2 2 _ rfl).2
  have hc : cA = cC := Option.some.inj (f1.symm.trans k4)
  subst hc
  generalize hH1 : H.push ({ cls := cA, slots := Array.replicate n.toNatClampNeg .null, vm := .none } : Cell) = H1
  have z1 : H1.size = H.size + 1 := by rw [← hH1, Array.size_push]
  have e1 : H1[H.size]? = some (arrV cA n.toNatClampNeg (fun _ => .null)) := by rw [← hH1, Array.getElem?_push_size, ← arrV_new]
  have o1 : ∀ q : Nat, q < H.size → H1[q]? = H[q]? := fun q hq => by rw [← hH1, Array.getElem?_push, if_neg (Nat.ne_of_lt hq)]
  exact kk H1 e1 z1 o1 (hS.new rfl z1 o1 hbz)
theorem nw_put (hexec : p.tables.exec = Jvm.exec) (hb : c.code = cc) {own ref C : String} {T : u_T} {N ci index : Nat} {Ts : List Cond} (hts : ∀ w ∈ Ts, w.before args s = true) (hin : ∀ w ∈ u_ws C T N, w ∈ Ts) (ty0 : Nat → FieldType) (hty : ∀ k, k < N → parseFieldDescriptor (T k).2.2.1 = some (ty0 k)) (hnm : ∀ a, a < N → ∀ b, b < N → a ≠ b → (T a).2.1 ≠ (T b).2.1) (hown : s.vm.findClass own = some m.cls) (hK : va_K D vwCl tys s) (hS : cF b H0 H locs) (hba : b ≤ a) {fs : List Value} (hat : va_at D vwCl (a, .inr (ci, fs)) H) (hc : vwCl[ci]? = some (C, T, N)) (k : Nat) (hk : k < N) (hlink : (Cond.fieldLink own index ref (T k).2.1 (T k).2.2.1).before args s = true) (hsame : ∀ x, s.fieldFound? (T k).1 (T k).2.1 (T k).2.2.1 = some x → s.fieldFound? ref (T k).2.1 (T k).2.2.1 = some x) (hfin : (T k).2.2.2 = false) {ty : FieldType} {v : Value} (hd : parseFieldDescriptor (T k).2.2.1 = some ty) (hn : narrow ty v = v) (hfit : fits ty v = true) (hl : k < fs.length)
    (hdg : decode cc pc = .ok (.putfield index, 3)) (kk : ∀ (H1 : Heap) (locs1 : List Loc), va_at D vwCl (a, .inr (ci, fs.set k v)) H1 → H1.size = H.size → (∀ q : Nat, q ≠ a → H1[q]? = H[q]?) → cF b H0 H1 locs1 → W p l e R s m args below meth c H1 locs1 cells slots Q (F0 m (pc + 3) ls rest)) : W p l e R s m args below meth c H locs cells slots Q (F0 m pc ls (v :: .ref a :: rest)) := by
  have hap := va_apart (own := own) hts hin ty0 hty hnm hK hc
  obtain ⟨r, h1, cell, q1, q2, q3, q4⟩ := hat
  have hr : r = (C, T, N) := Option.some.inj (h1.symm.trans hc)
  subst hr
  obtain ⟨hSl, hfc, kC, hkC, hkind⟩ := hK.1 ci _ hc
  obtain ⟨cf, kf, fi, f, hi, hsl⟩ := hSl k hk
  have hlay := hts _ (hin _ (u_in_lay hk))
  unfold u_lay at hlay
  rw [if_neg (by rw [hfin]; decide)] at hlay
  have hst := (u_facts hfc hkC (u_lays hts hin hk) hi).1
  have h6 := u_store hfc hkC hkind hlay hi hd hn hfit
  refine W.putK hexec hb (f := f) ⟨hown, hlink, ⟨_, _, _, hsame _ hi⟩, hst⟩ (by rw [q2]; exact h6) q1 q3 (by rw [hsl]; exact k2_hasslot (q4 k hk)) rfl rfl hdg fun H' e1 e2 e3 => ?_
  rw [hsl] at e1 ⊢
  exact kk H' _ ⟨_, hc, t_OB.to (V := updV (vp_V fs) k v) ⟨_, e1, q2, q3, t_set q4 hap hk v⟩ (fun j _ => vp_updV_set hl v j)⟩ e2 e3 (hS.put e2 e3 hba)
theorem nw_putF (hexec : p.tables.exec = Jvm.exec) (hb : c.code = cc) {own ref C : String} {T : u_T} {N ci index : Nat} {Ts : List Cond} (hts : ∀ w ∈ Ts, w.before args s = true) (hin : ∀ w ∈ u_ws C T N, w ∈ Ts) (ty0 : Nat → FieldType) (hty : ∀ k, k < N → parseFieldDescriptor (T k).2.2.1 = some (ty0 k)) (hnm : ∀ a, a < N → ∀ b, b < N → a ≠ b → (T a).2.1 ≠ (T b).2.1) (hown : s.vm.findClass own = some m.cls) (hK : va_K D vwCl tys s) (hS : cF b H0 H locs) (hba : b ≤ a) {fs : List Value} (hat : va_at D vwCl (a, .inr (ci, fs)) H) (hc : vwCl[ci]? = some (C, T, N)) (k : Nat) (hk : k < N) (hlink : (Cond.fieldLink own index ref (T k).2.1 (T k).2.2.1).before args s = true) (hsame : ∀ x, s.fieldFound? (T k).1 (T k).2.1 (T k).2.2.1 = some x → s.fieldFound? ref (T k).2.1 (T k).2.2.1 = some x) (hfin : (T k).2.2.2 = true) (hin2 : meth.name = "<init>") (hdecl : (T k).1 = own) {ty : FieldType} {v : Value} (hd : parseFieldDescriptor (T k).2.2.1 = some ty) (hn : narrow ty v = v) (hfit : fits ty v = true) (hl : k < fs.length)
    (hdg : decode cc pc = .ok (.putfield index, 3)) (kk : ∀ (H1 : Heap) (locs1 : List Loc), va_at D vwCl (a, .inr (ci, fs.set k v)) H1 → H1.size = H.size → (∀ q : Nat, q ≠ a → H1[q]? = H[q]?) → cF b H0 H1 locs1 → W p l e R s m args below meth c H1 locs1 cells slots Q (F0 m (pc + 3) ls rest)) : W p l e R s m args below meth c H locs cells slots Q (F0 m pc ls (v :: .ref a :: rest)) := by
  have hap := va_apart (own := own) hts hin ty0 hty hnm hK hc
  obtain ⟨r, h1, cell, q1, q2, q3, q4⟩ := hat
  have hr : r = (C, T, N) := Option.some.inj (h1.symm.trans hc)
  subst hr
  obtain ⟨hSl, hfc, kC, hkC, hkind⟩ := hK.1 ci _ hc
  obtain ⟨cf, kf, fi, f, hi, hsl⟩ := hSl k hk
  have hlay := hts _ (hin _ (u_in_lay hk))
  unfold u_lay at hlay
  rw [if_pos hfin] at hlay
  have hst := (u_facts hfc hkC (u_lays hts hin hk) hi).1
  have hcf : m.cls = cf := by
    obtain ⟨_, _, c', _, _, _, -, -, hf', -, -, -, hown2, -⟩ := Cond.laysFinal_spec hlay
    have e1 : c' = cf := by have := hi.symm.trans hf'; simp at this; exact this.1.symm
    rw [hdecl] at hown2
    rw [← e1]; exact Option.some.inj (hown.symm.trans hown2)
  have h6 := u_fits hfc hkC hkind (Or.inr hlay) hi hd hn hfit
  refine W.putFinK hexec hb hown hlink (hsame _ hi) hst hcf hin2 (by rw [q2]; exact h6) q1 q3 (by rw [hsl]; exact k2_hasslot (q4 k hk)) rfl rfl hdg fun H' e1 e2 e3 => ?_
  rw [hsl] at e1 ⊢
  exact kk H' _ ⟨_, hc, t_OB.to (V := updV (vp_V fs) k v) ⟨_, e1, q2, q3, t_set q4 hap hk v⟩ (fun j _ => vp_updV_set hl v j)⟩ e2 e3 (hS.put e2 e3 hba)
theorem nw_iast (hexec : p.tables.exec = Jvm.exec) (hb : c.code = cc) (hK : va_K D vwCl (tvK cI cL cC) s) {n : Nat} {f : Nat → Int32} (hat : va_at D vwCl (a, .inl (cI, n, .inl f)) H) {i : Int32} {x : Int32} (hin : vp_in i n) (hdg : decode cc pc = .ok (.iastore, 1))
    (kk : ∀ (H1 : Heap), va_at D vwCl (a, .inl (cI, n, .inl (upd f i.toNatClampNeg x))) H1 → H1.size = H.size → (∀ q : Nat, q ≠ a → H1[q]? = H[q]?) → W p l e R s m args below meth c H1 (locs ++ [⟨a, i.toNatClampNeg⟩]) cells slots Q (F0 m (pc + 1) ls rest)) : W p l e R s m args below meth c H locs cells slots Q (F0 m pc ls (.int x :: .int i :: .ref a :: rest)) := by
  refine W.iast hexec hb hat ((hK.2 0 _ rfl).1 n (fun j => .int (f j))) (fun q => by cases q) (by show ¬ (i < 0 ∨ (arrV _ _ _).slots.size ≤ _); rw [arrV_size]; exact hin) rfl rfl hdg fun H1 e z oq => ?_
  refine kk H1 ?_ z oq
  show H1[a]? = some (vp_cell _ _)
  rw [e]
  rw [vp_cell_i, vp_cell_i, arrV_store]
  congr 2
  funext q
  by_cases hq : q = i.toNatClampNeg
  · subst hq
    simp [updV, upd]
  · simp [updV, upd, hq]
theorem nw_last (hexec : p.tables.exec = Jvm.exec) (hb : c.code = cc) (hK : va_K D vwCl (tvK cI cL cC) s) {n : Nat} {f : Nat → Int64} (hat : va_at D vwCl (a, .inl (cL, n, .inr (.inl f))) H) {i : Int32} {x : Int64} (hin : vp_in i n) (hdg : decode cc pc = .ok (.lastore, 1))
    (kk : ∀ (H1 : Heap), va_at D vwCl (a, .inl (cL, n, .inr (.inl (vp_updL f i.toNatClampNeg x)))) H1 → H1.size = H.size → (∀ q : Nat, q ≠ a → H1[q]? = H[q]?) → W p l e R s m args below meth c H1 (locs ++ [⟨a, i.toNatClampNeg⟩]) cells slots Q (F0 m (pc + 1) ls rest)) : W p l e R s m args below meth c H locs cells slots Q (F0 m pc ls (.long x :: .int i :: .ref a :: rest)) := by
  refine W.last hexec hb hat ((hK.2 1 _ rfl).1 n (fun j => .long (f j))) (fun q => by cases q) (by show ¬ (i < 0 ∨ (arrV _ _ _).slots.size ≤ _); rw [arrV_size]; exact hin) rfl rfl hdg fun H1 e z oq => ?_
  refine kk H1 ?_ z oq
  show H1[a]? = some (vp_cell _ _)
  rw [e]
  rw [vp_cell_l, vp_cell_l, arrV_store]
  congr 2
  funext q
  by_cases hq : q = i.toNatClampNeg
  · subst hq
    simp [updV, vp_updL]
  · simp [updV, vp_updL, hq]
theorem nw_aast (hexec : p.tables.exec = Jvm.exec) (hb : c.code = cc) (hK : va_K D vwCl (tvK cI cL cC) s) (hS : cF b H0 H locs) (hba : b ≤ a) {n v : Nat} {vs : List Value} {f : Nat → Option Nat} (hat : va_at D vwCl (a, .inl (cC, n, .inr (.inr (.inr (.inr f))))) H) (hv : va_at D vwCl (v, .inr (0, vs)) H) {i : Int32} (hin : vp_in i n) (hdg : decode cc pc = .ok (.aastore, 1))
    (kk : ∀ (H1 : Heap) (locs1 : List Loc), va_at D vwCl (a, .inl (cC, n, .inr (.inr (.inr (.inr (va_up f i.toNatClampNeg (some v))))))) H1 → H1.size = H.size → (∀ q : Nat, q ≠ a → H1[q]? = H[q]?) → cF b H0 H1 locs1 → W p l e R s m args below meth c H1 locs1 cells slots Q (F0 m (pc + 1) ls rest)) : W p l e R s m args below meth c H locs cells slots Q (F0 m pc ls (.ref v :: .int i :: .ref a :: rest)) := by
  have hlt : i.toNatClampNeg < n := Nat.not_le.mp fun q => hin (Or.inr q)
  have h0 : ¬ i < 0 := fun q => hin (Or.inl q)
  obtain ⟨r', hr', cellV, g1, g2, g3, -⟩ := hv
  have hcls := (hK.1 0 (RX0, TX0, 8) rfl).2
  obtain ⟨kA, comp, k1, k2, k3, -⟩ := (hK.2 2 _ rfl).2
  have hcomp : comp = D.1 0 := Option.some.inj (k3.symm.trans hcls.1)
  subst hcomp
  obtain ⟨kC, hkC, -⟩ := hcls.2
  refine W.aast hexec hb hat (fun q h => by cases h) (fun h => by cases h) k1 k2 rfl hkC ⟨h0, by show _ < (arrV _ _ _).slots.size; rw [arrV_size]; exact hlt⟩ g1 (fun q h => by rw [g3] at h; cases h) (by rw [g2]; exact hkC) (by rw [g2]; exact va_assign hcls) rfl rfl hdg fun H1 e z oq => ?_
  refine kk H1 _ ?_ z oq (hS.put z oq hba)
  show H1[a]? = some (vp_cell _ _)
  rw [e]
  rw [vp_cell_q, vp_cell_q, arrV_store]
  congr 2
  funext q
  by_cases hq : q = i.toNatClampNeg
  · subst hq
    simp [updV, va_up, va_rf]
  · simp [updV, va_up, hq]
theorem nw_call {KL : List Nat} {mc ms : Nat} (hr : CallRun p l e R s m args below meth c H locs cells slots mc ms (F0 m pc ls st0) rest (cQ D F KL z ar) (fun q => z ≤ q)) (hS : cF b H0 H locs) (hz : H.size = z + 1) (hlen : 0 < KL.length) (hbz : b ≤ z)
    (kk : ∀ (H1 : Heap) (locs1 : List Loc), tS D F KL z H1 → H1.size = z + KL.length → (∀ q : Nat, q < z → H1[q]? = H[q]?) → cF b H0 H1 locs1 → W p l e R s m args below meth c H1 locs1 (cells + mc) (slots + ms) Q (F0 m (pc + 3) ls rest)) : W p l e R s m args below meth c H locs cells slots Q (F0 m pc ls st0) := by
  intro T hT X
  obtain ⟨v, st₀, u, T', L, h0, X', hL, e1, ⟨hv, hG, hz2, hk⟩, st⟩ := hr T hT X
  cases hv
  rw [h0] at hk
  obtain ⟨t2, a1, b1⟩ := kk u.heap (locs ++ L) hG hz2 hk ⟨by have := hS.1; omega, fun q hq => (hk q (by omega)).trans (hS.2.1 q hq), fun x hx => by
      rcases List.mem_append.mp hx with h | h
      · exact hS.2.2 x h
      · have := hL x h; omega⟩ T' e1 X'
  exact ⟨t2, st t2 a1, b1⟩
theorem nw_row {post : va_E → Prop} (hr : CallRun p l e R s m args below meth c H locs cells slots 0 0 (F0 m pc ls st0) rest (rQ D a post ar) (fun q => q = a))
    (kk : ∀ (H1 : Heap) (L : List Loc) (ee : va_E), post ee → va_at D vwCl (a, ee) H1 → H1.size = H.size → (∀ q : Nat, q ≠ a → H1[q]? = H[q]?) → (∀ x ∈ L, x.base = a) → W p l e R s m args below meth c H1 (locs ++ L) cells slots Q (F0 m (pc + 3) ls rest)) : W p l e R s m args below meth c H locs cells slots Q (F0 m pc ls st0) := by
  intro T hT X
  obtain ⟨v, st₀, u, T', L, h0, X', hL, e1, ⟨hv, ⟨ee, hat, hp⟩, hz2, hk⟩, st⟩ := hr T hT X
  cases hv
  rw [h0] at hk hz2
  obtain ⟨t2, a1, b1⟩ := kk u.heap L ee hp hat hz2 hk hL T' e1 X'
  exact ⟨t2, st t2 a1, b1⟩
theorem cF.row {L : List Loc} {H1 : Heap} (h : cF b H0 H locs) (z : H1.size = H.size) (oq : ∀ q : Nat, q ≠ a → H1[q]? = H[q]?) (hL : ∀ x ∈ L, x.base = a) (hb : b ≤ a) : cF b H0 H1 (locs ++ L) := by
  refine ⟨by rw [z]; exact h.1, fun q hq => (oq q (by omega)).trans (h.2.1 q hq), fun x hx => ?_⟩
  rcases List.mem_append.mp hx with h1 | h1
  · exact h.2.2 x h1
  · rw [hL x h1]; exact hb
theorem tF.row {t : Nat → Nat} {wr : Nat → Bool} {L : List Loc} {H1 : Heap} (h : tF t wr H0 H locs) (z : H1.size = H.size) (oq : ∀ q : Nat, q ≠ a → H1[q]? = H[q]?) (hL : ∀ x ∈ L, x.base = a) (hw : wr (t a) = true) : tF t wr H0 H1 (locs ++ L) := by
  refine ⟨z.trans h.1, fun q hq => ?_, fun x hx => ?_⟩
  · have : q ≠ a := fun e => by rw [e, hw] at hq; cases hq
    exact (oq q this).trans (h.2.1 q hq)
  · rcases List.mem_append.mp hx with h1 | h1
    · exact h.2.2 x h1
    · rw [hL x h1]; exact hw
end NW
theorem cM_ofW {l : Launch} {y : MethodName} {ws ws' : List Cond} {fr lo mc ms : Nat} {D : va_G} {F : tFT} {cI cL cC : ClassId} {ci h0 : Nat} {raw : List Value} {KL : List Nat} {cc : ByteArray} {maxL : Nat} (hy : plainName y.cls = true) (hi : y.name = "<init>") (hw : ws = Cond.code y cc maxL none :: ws') (hle : 1 ≤ maxL)
    (body : ∀ (p : Program) (e : Env) (s : State) (m : MethodId) (below : List Frame) (meth : Method) (c : Code), p.tables.exec = Jvm.exec → c.code = cc → meth.sig.returnType = none → c.maxLocals = maxL → s.vm.findClass y.cls = some m.cls → (∀ w ∈ ws, w.before #[Value.ref h0] s = true) → meth.locks = false → meth.name = "<init>" → s.heap.size = h0 + 1 → va_at D vwCl (h0, .inr (ci, raw)) s.heap → va_K D vwCl (tvK cI cL cC) s → EV D cI cL cC s → cF h0 s.heap s.heap [] → ∀ ls : Array Slot, lv_has ls maxL [(0, .ref h0)] →
      W p l e ({ frames := fr, cells := mc, slots := ms, locals := lo }) s m #[Value.ref h0] below meth c s.heap [] 0 0 (MQ below (cQ D F KL h0) #[Value.ref h0] s mc ms (fun q => h0 ≤ q)) (F0 m 0 ls [])) : Met l y ws ({ frames := fr, cells := mc, slots := ms, locals := lo }) (cP D cI cL cC ci raw h0) (cQ D F KL h0) mc ms (fun q => h0 ≤ q) := by
  refine Met.ofW (cc := cc) (maxL := maxL) (ret := none) hy hw ?_
  intro p e s m args below meth c s₁ B hml hv
  obtain ⟨rfl, hz, hat, hE⟩ := hv
  have hl := lv_entry [.ref h0] (n := maxL) hle
  rw [lg_entry_eq]
  exact body p e s m below meth c B.exec B.bytes B.returns hml (findClass_of_methodNamed B.named) (atoms_spec (ws := ws) B.pre) B.notSynchronized ((name_of_methodNamed B.named B.method).1.trans hi) hz hat hE.1 hE cF.rf _ hl
theorem tS.one {D : va_G} {F : tFT} {k b : Nat} {H : Heap} {e : va_E} (h : va_at D vwCl (b, e) H) (hF : ∀ t : Nat → Nat, F t k e) : tS D F [k] b H := fun i hi => by
  cases i with
  | zero => exact ⟨e, h, fun t _ => hF t⟩
  | succ i => simp at hi
theorem tS.app2 {D : va_G} {F : tFT} {K1 K2 : List Nat} {b b2 : Nat} {H : Heap} (h1 : tS D F K1 b H) (h2 : tS D F K2 b2 H) (hb : b2 = b + K1.length) : tS D F (K1 ++ K2) b H := by
  subst hb; exact h1.app h2
theorem ty_sld {p : Program} {l : Launch} {e : Env} {R : Room} {s : State} {m : MethodId} {args : Array Value} {below : List Frame} {meth : Method} {c : Code} {H : Heap} {locs : List Loc} {cells slots : Nat} {Q : State → Prop} {cc : ByteArray} {pc : Nat} {ls : Array Slot} {rest : List Value} (hexec : p.tables.exec = Jvm.exec) (hb : c.code = cc) {b L : Nat} {xs : Nat → Int32} (hX : va_X b L xs s H) {i : Int32} (hin : vp_in i L) (hdg : decode cc pc = .ok (.iaload, 1))
    (kk : W p l e R s m args below meth c H locs cells slots Q (F0 m (pc + 1) ls (.int (xs i.toNatClampNeg) :: rest))) : W p l e R s m args below meth c H locs cells slots Q (F0 m pc ls (.int i :: .ref b :: rest)) := by
  obtain ⟨scr, h1, h2, h3, h4, h5⟩ := hX
  have hlt : i.toNatClampNeg < L := Nat.not_le.mp fun q => hin (Or.inr q)
  exact W.iald (v := .int (xs i.toNatClampNeg)) hexec hb h1 h2 h3 (by rw [h4]; exact hin) (h5 _ hlt) rfl rfl hdg kk
theorem ty_slen {p : Program} {l : Launch} {e : Env} {R : Room} {s : State} {m : MethodId} {args : Array Value} {below : List Frame} {meth : Method} {c : Code} {H : Heap} {locs : List Loc} {cells slots : Nat} {Q : State → Prop} {cc : ByteArray} {pc : Nat} {ls : Array Slot} {rest : List Value} (hexec : p.tables.exec = Jvm.exec) (hb : c.code = cc) {b L : Nat} {xs : Nat → Int32} (hX : va_X b L xs s H) (hdg : decode cc pc = .ok (.arraylength, 1))
    (kk : W p l e R s m args below meth c H locs cells slots Q (F0 m (pc + 1) ls (.int (Int32.ofNat L) :: rest))) : W p l e R s m args below meth c H locs cells slots Q (F0 m pc ls (.ref b :: rest)) := by
  obtain ⟨scr, h1, h2, h3, h4, h5⟩ := hX
  exact W.alen (n := Int32.ofNat L) hexec hb h1 h2 (by rw [h4] <;> rfl) rfl rfl hdg kk
theorem va_at.keptA {D : va_G} {H H1 : Heap} {e : va_E} {b z : Nat} (k : Nat) (h : va_at D vwCl (b + k, e) H) (o : ∀ q : Nat, q < b + z → H1[q]? = H[q]?) (hlt : k < z) : va_at D vwCl (b + k, e) H1 := h.kept (o (b + k) (by omega))
theorem va_at.keptP {D : va_G} {H H1 : Heap} {e : va_E} {b j : Nat} (k : Nat) (h : va_at D vwCl (b + k, e) H) (o : ∀ q : Nat, q ≠ b + j → H1[q]? = H[q]?) (hne : (k == j) = false) : va_at D vwCl (b + k, e) H1 := h.kept (o (b + k) (by have h9 : k ≠ j := (by simpa using hne); omega))
theorem tS.keptA {D : va_G} {F : tFT} {KL : List Nat} {H H1 : Heap} {b z : Nat} (k n : Nat) (h : tS D F KL (b + k) H) (hn : KL.length = n) (o : ∀ q : Nat, q < b + z → H1[q]? = H[q]?) (hle : k + n ≤ z) : tS D F KL (b + k) H1 := h.kept (fun q _ h2 => o q (by omega))
theorem tS.keptP {D : va_G} {F : tFT} {KL : List Nat} {H H1 : Heap} {b j : Nat} (k n : Nat) (h : tS D F KL (b + k) H) (hn : KL.length = n) (o : ∀ q : Nat, q ≠ b + j → H1[q]? = H[q]?) (hne : (Nat.ble (k + n) j || Nat.blt j k) = true) : tS D F KL (b + k) H1 := h.kept (fun q h1 h2 => o q (by simp at hne; omega))
theorem tS.app3 {D : va_G} {F : tFT} {K1 K2 : List Nat} {b b2 : Nat} {H : Heap} (n : Nat) (h1 : tS D F K1 b H) (h2 : tS D F K2 b2 H) (hn : K1.length = n) (hb : b2 = b + n) : tS D F (K1 ++ K2) b H := by
  subst hn; subst hb; exact h1.app h2
theorem tSlen {KL : List Nat} {b n : Nat} {H : Heap} (hz : H.size = b + KL.length) (hn : KL.length = n) : H.size = b + n := by rw [hz, hn]
theorem lt3 {j : Nat} (h : j < 3) : j = 0 ∨ j = 1 ∨ j = 2 := by omega
theorem lt4 {j : Nat} (h : j < 4) : j = 0 ∨ j = 1 ∨ j = 2 ∨ j = 3 := by omega
theorem lp_gen {p : Program} {l : Launch} {e : Env} {R : Room} {s : State} {m : MethodId} {args : Array Value} {below : List Frame} {meth : Method} {c : Code} {H : Heap} {locs : List Loc} {cells slots : Nat} {Q : State → Prop} {g : JFrame} (k : ∀ WW : Heap → List Loc → JFrame → Prop, (∀ (H : Heap) (locs : List Loc) (g : JFrame), WW H locs g ↔ W p l e R s m args below meth c H locs cells slots Q g) → WW H locs g) : W p l e R s m args below meth c H locs cells slots Q g := k _ (fun _ _ _ => Iff.rfl)
/-- three rows changed -/
def r3 (a1 a2 a3 : Nat) (H0 H : Heap) (locs : List Loc) : Prop := H.size = H0.size ∧ (∀ q : Nat, q ≠ a1 → q ≠ a2 → q ≠ a3 → H[q]? = H0[q]?) ∧ ∀ x ∈ locs, x.base = a1 ∨ x.base = a2 ∨ x.base = a3
theorem r3.put {a1 a2 a3 a k : Nat} {H0 H H1 : Heap} {locs : List Loc} (h : r3 a1 a2 a3 H0 H locs) (z : H1.size = H.size) (oq : ∀ q : Nat, q ≠ a → H1[q]? = H[q]?) (ha : a = a1 ∨ a = a2 ∨ a = a3) : r3 a1 a2 a3 H0 H1 (locs ++ [⟨a, k⟩]) := by
  refine ⟨z.trans h.1, fun q h1 h2 h3 => (oq q (by rcases ha with rfl | rfl | rfl <;> assumption)).trans (h.2.1 q h1 h2 h3), fun x hx => ?_⟩
  rcases List.mem_append.mp hx with g | g
  · exact h.2.2 x g
  · rw [List.mem_singleton.mp g]; exact ha
abbrev fgQ (D : va_G) (cI : ClassId) (a1 a2 a3 : Nat) : Array Value → State → Outcome → State → Prop := fun _ st oc u => oc = .returned none ∧ (∃ g1 g2 g3 : Nat → Int32, (va_at D vwCl (a1, .inl (cI, 4, .inl g1)) u.heap ∧ va_at D vwCl (a2, .inl (cI, 384, .inl g2)) u.heap ∧ va_at D vwCl (a3, .inl (cI, 2, .inl g3)) u.heap) ∧ (∀ j : Nat, j < 4 → g1 j = -4) ∧ (∀ j : Nat, j < 384 → g2 j = -1) ∧ ∀ j : Nat, j < 2 → g3 j = 0) ∧ u.heap.size = st.heap.size ∧ ∀ q : Nat, q ≠ a1 → q ≠ a2 → q ≠ a3 → u.heap[q]? = st.heap[q]?
abbrev fgP (D : va_G) (cI cL cC : ClassId) (o a1 a2 a3 : Nat) (fs : List Value) (f1 f2 f3 : Nat → Int32) : Array Value → State → Prop := va_Pc [.ref o] (fun U => (va_at D vwCl (o, .inr (9, fs)) U.heap ∧ va_at D vwCl (a1, .inl (cI, 4, .inl f1)) U.heap ∧ va_at D vwCl (a2, .inl (cI, 384, .inl f2)) U.heap ∧ va_at D vwCl (a3, .inl (cI, 2, .inl f3)) U.heap) ∧ EV D cI cL cC U)
section FG
variable {p : Program} {l : Launch} {e : Env} {R : Room} {s : State} {m : MethodId} {args : Array Value} {below : List Frame} {meth : Method} {c : Code} {H : Heap} {locs : List Loc} {cells slots : Nat} {Q : State → Prop}
variable {pc : Nat} {ls : Array Slot} {rest st0 : List Value} {D : va_G} {cI cL cC : ClassId} {ar : Array Value} {o a1 a2 a3 : Nat} {fs : List Value} {f1 f2 f3 : Nat → Int32} {H0 : Heap} {b : Nat}
theorem fg_call (hr : CallRun p l e R s m args below meth c H locs cells slots 0 0 (F0 m pc ls st0) rest (fgQ D cI a1 a2 a3 ar) (fun q => q = a1 ∨ q = a2 ∨ q = a3)) (hS : cF b H0 H locs) (hb : b ≤ a1 ∧ b ≤ a2 ∧ b ≤ a3)
    (kk : ∀ (H1 : Heap) (locs1 : List Loc) (g1 g2 g3 : Nat → Int32), va_at D vwCl (a1, .inl (cI, 4, .inl g1)) H1 → va_at D vwCl (a2, .inl (cI, 384, .inl g2)) H1 → va_at D vwCl (a3, .inl (cI, 2, .inl g3)) H1 → (∀ j : Nat, j < 4 → g1 j = -4) → (∀ j : Nat, j < 384 → g2 j = -1) → (∀ j : Nat, j < 2 → g3 j = 0) → H1.size = H.size → (∀ q : Nat, q ≠ a1 → q ≠ a2 → q ≠ a3 → H1[q]? = H[q]?) → cF b H0 H1 locs1 → W p l e R s m args below meth c H1 locs1 cells slots Q (F0 m (pc + 3) ls rest)) : W p l e R s m args below meth c H locs cells slots Q (F0 m pc ls st0) := by
  intro T hT X
  obtain ⟨v, st₀, u, T', L, h0, X', hL, e1, ⟨hv, ⟨g1, g2, g3, ⟨h1, h2, h3⟩, h4, h5, h6⟩, hz2, hk⟩, st⟩ := hr T hT X
  cases hv
  rw [h0] at hk hz2
  obtain ⟨t2, q1, q2⟩ := kk u.heap (locs ++ L) g1 g2 g3 h1 h2 h3 h4 h5 h6 hz2 hk ⟨by rw [hz2]; exact hS.1, fun q hq => (hk q (by omega) (by omega) (by omega)).trans (hS.2.1 q hq), fun x hx => by
      rcases List.mem_append.mp hx with h | h
      · exact hS.2.2 x h
      · rcases hL x h with h | h | h
        · rw [h]; exact hb.1
        · rw [h]; exact hb.2.1
        · rw [h]; exact hb.2.2⟩ T' e1 X'
  exact ⟨t2, st t2 q1, q2⟩
theorem fg_pre (h0 : va_at D vwCl (o, .inr (9, fs)) H) (h1 : va_at D vwCl (a1, .inl (cI, 4, .inl f1)) H) (h2 : va_at D vwCl (a2, .inl (cI, 384, .inl f2)) H) (h3 : va_at D vwCl (a3, .inl (cI, 2, .inl f3)) H) (hE : EV D cI cL cC s) : PreV s H RX10 o (fgP D cI cL cC o a1 a2 a3 fs f1 f2 f3) [] :=
  ⟨fun _ _ _ _ q => ⟨q.1, q.2.1, q.2.2.calling⟩, va_recv hE.1 (va_one h0) (ci := 9) (q := (RX10, TX10, 36)) rfl (q0 := 0) rfl, fun U hU hW => ⟨rfl, by rw [hU]; exact ⟨h0, h1, h2, h3⟩, hE.warm hW⟩⟩
end FG
theorem va_at.kept3 {D : va_G} {H H1 : Heap} {e : va_E} {b j1 j2 j3 : Nat} (k : Nat) (h : va_at D vwCl (b + k, e) H) (o : ∀ q : Nat, q ≠ b + j1 → q ≠ b + j2 → q ≠ b + j3 → H1[q]? = H[q]?) (hne : (k == j1 || k == j2 || k == j3) = false) : va_at D vwCl (b + k, e) H1 := h.kept (o (b + k) (by simp at hne; omega) (by simp at hne; omega) (by simp at hne; omega))
end
section
theorem dJ7_fill_d0a16_0 : decode cJ7_fill_d0a16 0 = .ok (.iconst 0, 1) := by decide +kernel
theorem dJ7_fill_d0a16_1 : decode cJ7_fill_d0a16 1 = .ok (.istore_n 3, 1) := by decide +kernel
theorem dJ7_fill_d0a16_2 : decode cJ7_fill_d0a16 2 = .ok (.aload_n 0, 1) := by decide +kernel
theorem dJ7_fill_d0a16_3 : decode cJ7_fill_d0a16 3 = .ok (.arraylength, 1) := by decide +kernel
theorem dJ7_fill_d0a16_4 : decode cJ7_fill_d0a16 4 = .ok (.istore 4, 2) := by decide +kernel
theorem dJ7_fill_d0a16_6 : decode cJ7_fill_d0a16 6 = .ok (.iload_n 3, 1) := by decide +kernel
theorem dJ7_fill_d0a16_7 : decode cJ7_fill_d0a16 7 = .ok (.iload 4, 2) := by decide +kernel
theorem dJ7_fill_d0a16_9 : decode cJ7_fill_d0a16 9 = .ok (.if_icmp .ge 13, 3) := by decide +kernel
theorem dJ7_fill_d0a16_12 : decode cJ7_fill_d0a16 12 = .ok (.aload_n 0, 1) := by decide +kernel
theorem dJ7_fill_d0a16_13 : decode cJ7_fill_d0a16 13 = .ok (.iload_n 3, 1) := by decide +kernel
theorem dJ7_fill_d0a16_14 : decode cJ7_fill_d0a16 14 = .ok (.lload_n 1, 1) := by decide +kernel
theorem dJ7_fill_d0a16_15 : decode cJ7_fill_d0a16 15 = .ok (.lastore, 1) := by decide +kernel
theorem dJ7_fill_d0a16_16 : decode cJ7_fill_d0a16 16 = .ok (.iinc 3 1, 3) := by decide +kernel
theorem dJ7_fill_d0a16_19 : decode cJ7_fill_d0a16 19 = .ok (.goto (-13), 3) := by decide +kernel
theorem dJ7_fill_d0a16_22 : decode cJ7_fill_d0a16 22 = .ok (.return_, 1) := by decide +kernel
theorem dJ7_fill_53178_0 : decode cJ7_fill_53178 0 = .ok (.iconst 0, 1) := by decide +kernel
theorem dJ7_fill_53178_1 : decode cJ7_fill_53178 1 = .ok (.istore_n 2, 1) := by decide +kernel
theorem dJ7_fill_53178_2 : decode cJ7_fill_53178 2 = .ok (.aload_n 0, 1) := by decide +kernel
theorem dJ7_fill_53178_3 : decode cJ7_fill_53178 3 = .ok (.arraylength, 1) := by decide +kernel
theorem dJ7_fill_53178_4 : decode cJ7_fill_53178 4 = .ok (.istore_n 3, 1) := by decide +kernel
theorem dJ7_fill_53178_5 : decode cJ7_fill_53178 5 = .ok (.iload_n 2, 1) := by decide +kernel
theorem dJ7_fill_53178_6 : decode cJ7_fill_53178 6 = .ok (.iload_n 3, 1) := by decide +kernel
theorem dJ7_fill_53178_7 : decode cJ7_fill_53178 7 = .ok (.if_icmp .ge 13, 3) := by decide +kernel
theorem dJ7_fill_53178_10 : decode cJ7_fill_53178 10 = .ok (.aload_n 0, 1) := by decide +kernel
theorem dJ7_fill_53178_11 : decode cJ7_fill_53178 11 = .ok (.iload_n 2, 1) := by decide +kernel
theorem dJ7_fill_53178_12 : decode cJ7_fill_53178 12 = .ok (.iload_n 1, 1) := by decide +kernel
theorem dJ7_fill_53178_13 : decode cJ7_fill_53178 13 = .ok (.iastore, 1) := by decide +kernel
theorem dJ7_fill_53178_14 : decode cJ7_fill_53178 14 = .ok (.iinc 2 1, 3) := by decide +kernel
theorem dJ7_fill_53178_17 : decode cJ7_fill_53178 17 = .ok (.goto (-12), 3) := by decide +kernel
theorem dJ7_fill_53178_20 : decode cJ7_fill_53178 20 = .ok (.return_, 1) := by decide +kernel
/-! Arrays.fill: the row holds x everywhere -/
set_option maxHeartbeats 4000000 in
theorem c_fillI (l : Launch) (D : va_G) (cI cL cC : ClassId) (a n : Nat) (f : Nat → Int32) (x : Int32) (hn : n < 2 ^ 31) : Met l yJ7_fill_53178 wsJ7_fill_53178 ({ frames := 0, cells := 0, slots := 0, locals := 0 }) (rP D cI cL cC [.ref a, .int x] a (.inl (cI, n, .inl f))) (rQ D a (fun e => ∃ g : Nat → Int32, e = .inl (cI, n, .inl g) ∧ ∀ j : Nat, j < n → g j = x)) 0 0 (fun q => q = a) := by
  refine Met.ofW (cc := cJ7_fill_53178) (maxL := 4) (ret := none) (by decide) rfl ?_
  intro p e s m args below meth c s₁ B hml hv
  obtain ⟨rfl, hat, hE⟩ := hv
  have hx := B.exec
  have hb := B.bytes
  have hr := B.returns
  have hlk := B.notSynchronized
  have hK := hE.1
  have hl := lv_entry [.ref a, .int x] (n := 4) (Nat.le_of_ble_eq_true rfl)
  rw [lg_entry_eq]
  generalize (lg_sl ([.ref a, .int x]) ++ List.replicate (4 - (lg_sl ([.ref a, .int x])).length) Slot.unset).toArray = ls at hl ⊢
  have hl : lv_has ls 4 [(0, .ref a), (1, .int x)] := hl
  have loop : ∀ (k i : Nat) (f : Nat → Int32) (H : Heap) (locs : List Loc) (ls : Array Slot), i + k = n → va_at D vwCl (a, .inl (cI, n, .inl f)) H → (∀ j : Nat, j < i → f j = x) → H.size = s.heap.size → (∀ q : Nat, q ≠ a → H[q]? = s.heap[q]?) → (∀ q ∈ locs, q.base = a) → lv_has ls 4 [(3, .int (nI n)), (2, .int (nI i)), (0, .ref a), (1, .int x)] →
      W p l e ({ frames := 0, cells := 0, slots := 0, locals := 0 } : Room) s m ([Value.ref a, .int x].toArray) below meth c H locs 0 0 (MQ below (rQ D a (fun e => ∃ g : Nat → Int32, e = .inl (cI, n, .inl g) ∧ ∀ j : Nat, j < n → g j = x)) ([Value.ref a, .int x].toArray) s 0 0 (fun q => q = a)) (F0 m 5 ls []) := by
    intro k
    induction k with
    | zero =>
      intro i f H locs ls hi hat hf hz ho hL hl
      have hi : i = n := by omega
      subst hi
      refine lv_iload_n hx hb dJ7_fill_53178_5 rfl (lv_at hl 1 rfl) ?_
      refine lv_iload_n hx hb dJ7_fill_53178_6 rfl (lv_at hl 0 rfl) ?_
      refine lv_icmp_ge (tgt := 20) hx hb dJ7_fill_53178_7 (by decide) (fun _ => ?_) (fun q => absurd (Int32.le_refl _) q)
      exact W.vret hx hb hr (fun t ht hW => ⟨rfl, ⟨_, by rw [ht]; exact hat, f, rfl, hf⟩, by rw [ht]; exact hz, by rw [ht]; exact ho⟩) hL dJ7_fill_53178_20 hlk
    | succ k ih =>
      intro i f H locs ls hi hat hf hz ho hL hl
      have hlt : i < n := by omega
      refine lv_iload_n hx hb dJ7_fill_53178_5 rfl (lv_at hl 1 rfl) ?_
      refine lv_iload_n hx hb dJ7_fill_53178_6 rfl (lv_at hl 0 rfl) ?_
      refine lv_icmp_ge (tgt := 20) hx hb dJ7_fill_53178_7 (by decide) (fun q => absurd q (nI_ge hlt hn)) (fun _ => ?_)
      refine lv_aload_n hx hb dJ7_fill_53178_10 rfl (lv_at hl 2 rfl) ?_
      refine lv_iload_n hx hb dJ7_fill_53178_11 rfl (lv_at hl 1 rfl) ?_
      refine lv_iload_n hx hb dJ7_fill_53178_12 rfl (lv_at hl 3 rfl) ?_
      refine nw_iast hx hb hK hat (vp_in_nI hlt hn) dJ7_fill_53178_13 (fun H1 hat1 hz1 ho1 => ?_)
      rw [nI_clamp (by omega)] at hat1
      refine lv_iinc (v := nI (i + 1)) (lv' := [(2, .int (nI (i + 1))), (3, .int (nI n)), (0, .ref a), (1, .int x)]) hx hb dJ7_fill_53178_14 hl (k := 1) rfl (by rw [nI_succ]; rfl) (by decide) rfl (fun ls hl => ?_)
      refine lv_goto (tgt := 5) hx hb dJ7_fill_53178_17 (by decide) ?_
      refine ih (i + 1) _ H1 _ ls (by omega) hat1 (fun j hj => ?_) (hz1.trans hz) (fun q hq => (ho1 q hq).trans (ho q hq)) (fun q hq => ?_) (lv_sub hl [1, 0, 2, 3] rfl)
      · unfold upd
        split
        · rfl
        · exact hf j (by omega)
      · rcases List.mem_append.mp hq with h | h
        · exact hL q h
        · rw [List.mem_singleton.mp h]
  refine lv_iconst (v := 0) hx hb dJ7_fill_53178_0 (by decide) ?_
  refine lv_istore_n (lv' := [(2, .int 0), (0, .ref a), (1, .int x)]) hx hb dJ7_fill_53178_1 rfl hl (by decide) rfl (fun ls hl => ?_)
  refine lv_aload_n hx hb dJ7_fill_53178_2 rfl (lv_at hl 1 rfl) ?_
  refine va_alen (v := nI n) hx hb hK (va_one hat) 0 0 rfl rfl rfl dJ7_fill_53178_3 ?_
  refine lv_istore_n (lv' := [(3, .int (nI n)), (2, .int 0), (0, .ref a), (1, .int x)]) hx hb dJ7_fill_53178_4 rfl hl (by decide) rfl (fun ls hl => ?_)
  exact loop n 0 f s.heap [] ls (by omega) hat (fun j hj => absurd hj (Nat.not_lt_zero j)) rfl (fun _ _ => rfl) (fun q h => by cases h) hl
set_option maxHeartbeats 4000000 in
theorem c_fillL (l : Launch) (D : va_G) (cI cL cC : ClassId) (a n : Nat) (f : Nat → Int64) (x : Int64) (hn : n < 2 ^ 31) : Met l yJ7_fill_d0a16 wsJ7_fill_d0a16 ({ frames := 0, cells := 0, slots := 0, locals := 0 }) (rP D cI cL cC [.ref a, .long x] a (.inl (cL, n, .inr (.inl f)))) (rQ D a (fun e => ∃ g : Nat → Int64, e = .inl (cL, n, .inr (.inl g)) ∧ ∀ j : Nat, j < n → g j = x)) 0 0 (fun q => q = a) := by
  refine Met.ofW (cc := cJ7_fill_d0a16) (maxL := 5) (ret := none) (by decide) rfl ?_
  intro p e s m args below meth c s₁ B hml hv
  obtain ⟨rfl, hat, hE⟩ := hv
  have hx := B.exec
  have hb := B.bytes
  have hr := B.returns
  have hlk := B.notSynchronized
  have hK := hE.1
  have hl := lv_entry [.ref a, .long x] (n := 5) (Nat.le_of_ble_eq_true rfl)
  rw [lg_entry_eq]
  generalize (lg_sl ([.ref a, .long x]) ++ List.replicate (5 - (lg_sl ([.ref a, .long x])).length) Slot.unset).toArray = ls at hl ⊢
  have hl : lv_has ls 5 [(0, .ref a), (1, .long x)] := hl
  have loop : ∀ (k i : Nat) (f : Nat → Int64) (H : Heap) (locs : List Loc) (ls : Array Slot), i + k = n → va_at D vwCl (a, .inl (cL, n, .inr (.inl f))) H → (∀ j : Nat, j < i → f j = x) → H.size = s.heap.size → (∀ q : Nat, q ≠ a → H[q]? = s.heap[q]?) → (∀ q ∈ locs, q.base = a) → lv_has ls 5 [(4, .int (nI n)), (3, .int (nI i)), (0, .ref a), (1, .long x)] →
      W p l e ({ frames := 0, cells := 0, slots := 0, locals := 0 } : Room) s m ([Value.ref a, .long x].toArray) below meth c H locs 0 0 (MQ below (rQ D a (fun e => ∃ g : Nat → Int64, e = .inl (cL, n, .inr (.inl g)) ∧ ∀ j : Nat, j < n → g j = x)) ([Value.ref a, .long x].toArray) s 0 0 (fun q => q = a)) (F0 m 6 ls []) := by
    intro k
    induction k with
    | zero =>
      intro i f H locs ls hi hat hf hz ho hL hl
      have hi : i = n := by omega
      subst hi
      refine lv_iload_n hx hb dJ7_fill_d0a16_6 rfl (lv_at hl 1 rfl) ?_
      refine lv_iload hx hb dJ7_fill_d0a16_7 (lv_at hl 0 rfl) ?_
      refine lv_icmp_ge (tgt := 22) hx hb dJ7_fill_d0a16_9 (by decide) (fun _ => ?_) (fun q => absurd (Int32.le_refl _) q)
      exact W.vret hx hb hr (fun t ht hW => ⟨rfl, ⟨_, by rw [ht]; exact hat, f, rfl, hf⟩, by rw [ht]; exact hz, by rw [ht]; exact ho⟩) hL dJ7_fill_d0a16_22 hlk
    | succ k ih =>
      intro i f H locs ls hi hat hf hz ho hL hl
      have hlt : i < n := by omega
      refine lv_iload_n hx hb dJ7_fill_d0a16_6 rfl (lv_at hl 1 rfl) ?_
      refine lv_iload hx hb dJ7_fill_d0a16_7 (lv_at hl 0 rfl) ?_
      refine lv_icmp_ge (tgt := 22) hx hb dJ7_fill_d0a16_9 (by decide) (fun q => absurd q (nI_ge hlt hn)) (fun _ => ?_)
      refine lv_aload_n hx hb dJ7_fill_d0a16_12 rfl (lv_at hl 2 rfl) ?_
      refine lv_iload_n hx hb dJ7_fill_d0a16_13 rfl (lv_at hl 1 rfl) ?_
      refine lv_lload_n hx hb dJ7_fill_d0a16_14 rfl (lv_at hl 3 rfl) ?_
      refine nw_last hx hb hK hat (vp_in_nI hlt hn) dJ7_fill_d0a16_15 (fun H1 hat1 hz1 ho1 => ?_)
      rw [nI_clamp (by omega)] at hat1
      refine lv_iinc (v := nI (i + 1)) (lv' := [(3, .int (nI (i + 1))), (4, .int (nI n)), (0, .ref a), (1, .long x)]) hx hb dJ7_fill_d0a16_16 hl (k := 1) rfl (by rw [nI_succ]; rfl) (by decide) rfl (fun ls hl => ?_)
      refine lv_goto (tgt := 6) hx hb dJ7_fill_d0a16_19 (by decide) ?_
      refine ih (i + 1) _ H1 _ ls (by omega) hat1 (fun j hj => ?_) (hz1.trans hz) (fun q hq => (ho1 q hq).trans (ho q hq)) (fun q hq => ?_) (lv_sub hl [1, 0, 2, 3] rfl)
      · unfold vp_updL
        split
        · rfl
        · exact hf j (by omega)
      · rcases List.mem_append.mp hq with h | h
        · exact hL q h
        · rw [List.mem_singleton.mp h]
  refine lv_iconst (v := 0) hx hb dJ7_fill_d0a16_0 (by decide) ?_
  refine lv_istore_n (lv' := [(3, .int 0), (0, .ref a), (1, .long x)]) hx hb dJ7_fill_d0a16_1 rfl hl (by decide) rfl (fun ls hl => ?_)
  refine lv_aload_n hx hb dJ7_fill_d0a16_2 rfl (lv_at hl 1 rfl) ?_
  refine va_alen (v := nI n) hx hb hK (va_one hat) 0 1 rfl rfl rfl dJ7_fill_d0a16_3 ?_
  refine lv_istore (lv' := [(4, .int (nI n)), (3, .int 0), (0, .ref a), (1, .long x)]) hx hb dJ7_fill_d0a16_4 hl (by decide) rfl (fun ls hl => ?_)
  exact loop n 0 f s.heap [] ls (by omega) hat (fun j hj => absurd hj (Nat.not_lt_zero j)) rfl (fun _ _ => rfl) (fun q h => by cases h) hl
end
section
def fF (cI cL cC : ClassId) (gC : Int32) (gR : Int32) : tFT := fun t k e => match k with
  | 1 => ∃ (r0 : Nat) (r1 : Nat) (r2 : Nat) (r3 : Nat) (r6 : Nat) (r7 : Nat) (r8 : Nat) (r9 : Nat) (r10 : Nat) (r11 : Nat) (r12 : Nat) (r14 : Nat) (r15 : Nat) (r16 : Nat) (r17 : Nat), e = .inr (8, [.ref r0, .ref r1, .ref r2, .ref r3, .int 0, .int 0, .ref r6, .ref r7, .ref r8, .ref r9, .ref r10, .ref r11, .ref r12, .int 0, .ref r14, .ref r15, .ref r16, .ref r17]) ∧ t r0 = 2 ∧ t r1 = 3 ∧ t r2 = 3 ∧ t r3 = 3 ∧ t r6 = 4 ∧ t r7 = 4 ∧ t r8 = 35 ∧ t r9 = 5 ∧ t r10 = 5 ∧ t r11 = 5 ∧ t r12 = 36 ∧ t r14 = 6 ∧ t r15 = 7 ∧ t r16 = 8 ∧ t r17 = 9
  | 2 => ∃ (r0 : Nat) (r1 : Nat) (v3 : Int32), e = .inr (6, [.ref r0, .ref r1, .int gC, .int v3]) ∧ t r0 = 10 ∧ t r1 = 11
  | 3 => ∃ (r0 : Nat) (r1 : Nat) (r2 : Nat), e = .inr (3, [.ref r0, .ref r1, .ref r2, .int 0, .int 0, .int 0]) ∧ t r0 = 12 ∧ t r1 = 13 ∧ t r2 = 14
  | 4 => ∃ (r0 : Nat) (r1 : Nat), e = .inr (5, [.ref r0, .ref r1]) ∧ t r0 = 15 ∧ t r1 = 16
  | 5 => ∃ (r0 : Nat) (r1 : Nat) (r2 : Nat) (r3 : Nat) (v4 : Int64) (v5 : Int64) (v6 : Int64), e = .inr (0, [.ref r0, .ref r1, .ref r2, .ref r3, .long v4, .long v5, .long v6, .int 0]) ∧ t r0 = 17 ∧ t r1 = 18 ∧ t r2 = 19 ∧ t r3 = 20
  | 6 => ∃ (r0 : Nat) (r1 : Nat) (r2 : Nat), e = .inr (1, [.ref r0, .ref r1, .ref r2, .int 0]) ∧ t r0 = 21 ∧ t r1 = 22 ∧ t r2 = 23
  | 7 => ∃ (r0 : Nat) (r1 : Nat) (r2 : Nat) (r3 : Nat) (r4 : Nat), e = .inr (2, [.ref r0, .ref r1, .ref r2, .ref r3, .ref r4]) ∧ t r0 = 24 ∧ t r1 = 25 ∧ t r2 = 26 ∧ t r3 = 27 ∧ t r4 = 28
  | 8 => ∃ (r0 : Nat) (r1 : Nat) (r2 : Nat), e = .inr (7, [.ref r0, .ref r1, .ref r2]) ∧ t r0 = 29 ∧ t r1 = 30 ∧ t r2 = 31
  | 9 => ∃ (r0 : Nat) (r1 : Nat) (r2 : Nat) (v3 : Int32) (v4 : Int64) (v5 : Int32) (v6 : Int32) (v7 : Int32) (v8 : Int32) (v9 : Int64), e = .inr (4, [.ref r0, .ref r1, .ref r2, .int v3, .long v4, .int v5, .int v6, .int v7, .int v8, .long v9]) ∧ t r0 = 32 ∧ t r1 = 33 ∧ t r2 = 34
  | 10 => ∃ (f : Nat → Int32), e = .inl (cI, 400, .inl f)
  | 11 => ∃ (f : Nat → Int32), e = .inl (cI, 6, .inl f)
  | 12 => ∃ (f : Nat → Int32), e = .inl (cI, 240, .inl f)
  | 13 => ∃ (f : Nat → Int32), e = .inl (cI, 16, .inl f)
  | 14 => ∃ (f : Nat → Int32), e = .inl (cI, 4, .inl f)
  | 15 => ∃ (f : Nat → Int32), e = .inl (cI, 96, .inl f)
  | 16 => ∃ (f : Nat → Int32), e = .inl (cI, 96, .inl f)
  | 17 => ∃ (f : Nat → Int64), e = .inl (cL, 16, .inr (.inl f))
  | 18 => ∃ (f : Nat → Int64), e = .inl (cL, 40, .inr (.inl f))
  | 19 => ∃ (f : Nat → Int32), e = .inl (cI, 4, .inl f)
  | 20 => ∃ (f : Nat → Int64), e = .inl (cL, 208, .inr (.inl f))
  | 21 => ∃ (f : Nat → Int32), e = .inl (cI, 4, .inl f) ∧ (∀ j : Nat, j < 4 → f j = (-4))
  | 22 => ∃ (f : Nat → Int32), e = .inl (cI, 4, .inl f)
  | 23 => ∃ (f : Nat → Int32), e = .inl (cI, 384, .inl f) ∧ (∀ j : Nat, j < 384 → f j = (-1))
  | 24 => ∃ (f : Nat → Int32), e = .inl (cI, 2, .inl f)
  | 25 => ∃ (f : Nat → Int32), e = .inl (cI, 2, .inl f)
  | 26 => ∃ (f : Nat → Int32), e = .inl (cI, 2, .inl f)
  | 27 => ∃ (f : Nat → Int32), e = .inl (cI, 2, .inl f)
  | 28 => ∃ (f : Nat → Int32), e = .inl (cI, 2, .inl f) ∧ (∀ j : Nat, j < 2 → f j = 0)
  | 29 => ∃ (f : Nat → Int32), e = .inl (cI, 4, .inl f) ∧ (∀ j : Nat, j < 4 → f j = 0)
  | 30 => ∃ (f : Nat → Int32), e = .inl (cI, 4, .inl f) ∧ (∀ j : Nat, j < 4 → f j = 0)
  | 31 => ∃ (f : Nat → Int32), e = .inl (cI, 96, .inl f) ∧ (∀ j : Nat, j < 96 → f j = 0)
  | 32 => ∃ (f : Nat → Option Nat), e = .inl (cC, 4, .inr (.inr (.inr (.inr f)))) ∧ (∀ j : Nat, j < 4 → ∃ x : Nat, f j = some x ∧ t x = 5)
  | 33 => ∃ (f : Nat → Int32), e = .inl (cI, 4, .inl f)
  | 34 => ∃ (f : Nat → Int32), e = .inl (cI, 4, .inl f)
  | 35 => ∃ (f : Nat → Int32), e = .inl (cI, 16, .inl f)
  | 36 => ∃ (f : Nat → Option Nat), e = .inl (cC, 3, .inr (.inr (.inr (.inr f)))) ∧ (∀ j : Nat, j < 3 → ∃ x : Nat, f j = some x ∧ t x = 5)
  | 40 => ∃ (r1 : Nat) (r4 : Nat) (r5 : Nat) (r6 : Nat) (r7 : Nat) (r9 : Nat) (r10 : Nat) (r11 : Nat) (r12 : Nat) (r14 : Nat) (r15 : Nat) (r16 : Nat) (r18 : Nat) (r19 : Nat) (r20 : Nat) (r21 : Nat) (r22 : Nat) (r23 : Nat) (r24 : Nat) (r25 : Nat) (r26 : Nat) (v27 : Int32) (v28 : Int32) (v29 : Int32) (v30 : Int32) (v31 : Int32) (r32 : Nat) (v33 : Int32) (v34 : Int32) (r35 : Nat), e = .inr (9, [.int gR, .ref r1, .int 0, .int 0, .ref r4, .ref r5, .ref r6, .ref r7, .int 0, .ref r9, .ref r10, .ref r11, .ref r12, .int 0, .ref r14, .ref r15, .ref r16, .int 0, .ref r18, .ref r19, .ref r20, .ref r21, .ref r22, .ref r23, .ref r24, .ref r25, .ref r26, .int v27, .int v28, .int v29, .int v30, .int v31, .ref r32, .int v33, .int v34, .ref r35]) ∧ t r1 = 41 ∧ t r4 = 42 ∧ t r5 = 43 ∧ t r6 = 44 ∧ t r7 = 45 ∧ t r9 = 46 ∧ t r10 = 47 ∧ t r11 = 48 ∧ t r12 = 49 ∧ t r14 = 50 ∧ t r15 = 51 ∧ t r16 = 52 ∧ t r18 = 53 ∧ t r19 = 54 ∧ t r20 = 55 ∧ t r21 = 56 ∧ t r22 = 57 ∧ t r23 = 58 ∧ t r24 = 59 ∧ t r25 = 60 ∧ t r26 = 61 ∧ t r32 = 62 ∧ t r35 = 63
  | 41 => ∃ (f : Nat → Int32), e = .inl (cI, 400, .inl f)
  | 42 => ∃ (f : Nat → Int32), e = .inl (cI, 120, .inl f)
  | 43 => ∃ (f : Nat → Int32), e = .inl (cI, 120, .inl f)
  | 44 => ∃ (f : Nat → Int32), e = .inl (cI, 120, .inl f)
  | 45 => ∃ (f : Nat → Int32), e = .inl (cI, 360, .inl f)
  | 46 => ∃ (f : Nat → Int32), e = .inl (cI, 384, .inl f)
  | 47 => ∃ (f : Nat → Int64), e = .inl (cL, 280, .inr (.inl f)) ∧ (∀ j : Nat, j < 280 → f j = 0)
  | 48 => ∃ (f : Nat → Int64), e = .inl (cL, 280, .inr (.inl f))
  | 49 => ∃ (f : Nat → Int64), e = .inl (cL, 840, .inr (.inl f))
  | 50 => ∃ (f : Nat → Int32), e = .inl (cI, 4, .inl f) ∧ (∀ j : Nat, j < 4 → f j = (-4))
  | 51 => ∃ (f : Nat → Int32), e = .inl (cI, 4, .inl f)
  | 52 => ∃ (f : Nat → Int32), e = .inl (cI, 384, .inl f) ∧ (∀ j : Nat, j < 384 → f j = (-1))
  | 53 => ∃ (f : Nat → Int32), e = .inl (cI, 2, .inl f)
  | 54 => ∃ (f : Nat → Int32), e = .inl (cI, 2, .inl f)
  | 55 => ∃ (f : Nat → Int32), e = .inl (cI, 2, .inl f)
  | 56 => ∃ (f : Nat → Int32), e = .inl (cI, 2, .inl f)
  | 57 => ∃ (f : Nat → Int32), e = .inl (cI, 2, .inl f) ∧ (∀ j : Nat, j < 2 → f j = 0)
  | 58 => ∃ (f : Nat → Int32), e = .inl (cI, 4, .inl f) ∧ (∀ j : Nat, j < 4 → f j = 0)
  | 59 => ∃ (f : Nat → Int32), e = .inl (cI, 96, .inl f) ∧ (∀ j : Nat, j < 96 → f j = 0)
  | 60 => ∃ (f : Nat → Int32), e = .inl (cI, 4, .inl f) ∧ (∀ j : Nat, j < 4 → f j = 0)
  | 61 => ∃ (f : Nat → Int32), e = .inl (cI, 16, .inl f)
  | 62 => ∃ (f : Nat → Int32), e = .inl (cI, 3, .inl f)
  | 63 => ∃ (f : Nat → Int64), e = .inl (cL, 96, .inr (.inl f))
  | _ => False
theorem fF_o1 {D : va_G} {cI cL cC : ClassId} {gC : Int32} {gR : Int32} {t : Nat → Nat} {H : Heap} {a : Nat} (hG : tG D (fF cI cL cC gC gR) t H) (ha : t a = 1) : ∃ (r0 : Nat) (r1 : Nat) (r2 : Nat) (r3 : Nat) (r6 : Nat) (r7 : Nat) (r8 : Nat) (r9 : Nat) (r10 : Nat) (r11 : Nat) (r12 : Nat) (r14 : Nat) (r15 : Nat) (r16 : Nat) (r17 : Nat), va_at D vwCl (a, .inr (8, [.ref r0, .ref r1, .ref r2, .ref r3, .int 0, .int 0, .ref r6, .ref r7, .ref r8, .ref r9, .ref r10, .ref r11, .ref r12, .int 0, .ref r14, .ref r15, .ref r16, .ref r17])) H ∧ t r0 = 2 ∧ t r1 = 3 ∧ t r2 = 3 ∧ t r3 = 3 ∧ t r6 = 4 ∧ t r7 = 4 ∧ t r8 = 35 ∧ t r9 = 5 ∧ t r10 = 5 ∧ t r11 = 5 ∧ t r12 = 36 ∧ t r14 = 6 ∧ t r15 = 7 ∧ t r16 = 8 ∧ t r17 = 9 := by
  obtain ⟨e, h1, h2⟩ := hG a (by rw [ha]; decide)
  rw [ha] at h2
  obtain ⟨r0, r1, r2, r3, r6, r7, r8, r9, r10, r11, r12, r14, r15, r16, r17, rfl, w0, w1, w2, w3, w4, w5, w6, w7, w8, w9, w10, w11, w12, w13, w14⟩ := h2
  exact ⟨r0, r1, r2, r3, r6, r7, r8, r9, r10, r11, r12, r14, r15, r16, r17, h1, w0, w1, w2, w3, w4, w5, w6, w7, w8, w9, w10, w11, w12, w13, w14⟩
theorem fF_o2 {D : va_G} {cI cL cC : ClassId} {gC : Int32} {gR : Int32} {t : Nat → Nat} {H : Heap} {a : Nat} (hG : tG D (fF cI cL cC gC gR) t H) (ha : t a = 2) : ∃ (r0 : Nat) (r1 : Nat) (v3 : Int32), va_at D vwCl (a, .inr (6, [.ref r0, .ref r1, .int gC, .int v3])) H ∧ t r0 = 10 ∧ t r1 = 11 := by
  obtain ⟨e, h1, h2⟩ := hG a (by rw [ha]; decide)
  rw [ha] at h2
  obtain ⟨r0, r1, v3, rfl, w0, w1⟩ := h2
  exact ⟨r0, r1, v3, h1, w0, w1⟩
theorem fF_o3 {D : va_G} {cI cL cC : ClassId} {gC : Int32} {gR : Int32} {t : Nat → Nat} {H : Heap} {a : Nat} (hG : tG D (fF cI cL cC gC gR) t H) (ha : t a = 3) : ∃ (r0 : Nat) (r1 : Nat) (r2 : Nat), va_at D vwCl (a, .inr (3, [.ref r0, .ref r1, .ref r2, .int 0, .int 0, .int 0])) H ∧ t r0 = 12 ∧ t r1 = 13 ∧ t r2 = 14 := by
  obtain ⟨e, h1, h2⟩ := hG a (by rw [ha]; decide)
  rw [ha] at h2
  obtain ⟨r0, r1, r2, rfl, w0, w1, w2⟩ := h2
  exact ⟨r0, r1, r2, h1, w0, w1, w2⟩
theorem fF_o4 {D : va_G} {cI cL cC : ClassId} {gC : Int32} {gR : Int32} {t : Nat → Nat} {H : Heap} {a : Nat} (hG : tG D (fF cI cL cC gC gR) t H) (ha : t a = 4) : ∃ (r0 : Nat) (r1 : Nat), va_at D vwCl (a, .inr (5, [.ref r0, .ref r1])) H ∧ t r0 = 15 ∧ t r1 = 16 := by
  obtain ⟨e, h1, h2⟩ := hG a (by rw [ha]; decide)
  rw [ha] at h2
  obtain ⟨r0, r1, rfl, w0, w1⟩ := h2
  exact ⟨r0, r1, h1, w0, w1⟩
theorem fF_o5 {D : va_G} {cI cL cC : ClassId} {gC : Int32} {gR : Int32} {t : Nat → Nat} {H : Heap} {a : Nat} (hG : tG D (fF cI cL cC gC gR) t H) (ha : t a = 5) : ∃ (r0 : Nat) (r1 : Nat) (r2 : Nat) (r3 : Nat) (v4 : Int64) (v5 : Int64) (v6 : Int64), va_at D vwCl (a, .inr (0, [.ref r0, .ref r1, .ref r2, .ref r3, .long v4, .long v5, .long v6, .int 0])) H ∧ t r0 = 17 ∧ t r1 = 18 ∧ t r2 = 19 ∧ t r3 = 20 := by
  obtain ⟨e, h1, h2⟩ := hG a (by rw [ha]; decide)
  rw [ha] at h2
  obtain ⟨r0, r1, r2, r3, v4, v5, v6, rfl, w0, w1, w2, w3⟩ := h2
  exact ⟨r0, r1, r2, r3, v4, v5, v6, h1, w0, w1, w2, w3⟩
theorem fF_o6 {D : va_G} {cI cL cC : ClassId} {gC : Int32} {gR : Int32} {t : Nat → Nat} {H : Heap} {a : Nat} (hG : tG D (fF cI cL cC gC gR) t H) (ha : t a = 6) : ∃ (r0 : Nat) (r1 : Nat) (r2 : Nat), va_at D vwCl (a, .inr (1, [.ref r0, .ref r1, .ref r2, .int 0])) H ∧ t r0 = 21 ∧ t r1 = 22 ∧ t r2 = 23 := by
  obtain ⟨e, h1, h2⟩ := hG a (by rw [ha]; decide)
  rw [ha] at h2
  obtain ⟨r0, r1, r2, rfl, w0, w1, w2⟩ := h2
  exact ⟨r0, r1, r2, h1, w0, w1, w2⟩
theorem fF_o7 {D : va_G} {cI cL cC : ClassId} {gC : Int32} {gR : Int32} {t : Nat → Nat} {H : Heap} {a : Nat} (hG : tG D (fF cI cL cC gC gR) t H) (ha : t a = 7) : ∃ (r0 : Nat) (r1 : Nat) (r2 : Nat) (r3 : Nat) (r4 : Nat), va_at D vwCl (a, .inr (2, [.ref r0, .ref r1, .ref r2, .ref r3, .ref r4])) H ∧ t r0 = 24 ∧ t r1 = 25 ∧ t r2 = 26 ∧ t r3 = 27 ∧ t r4 = 28 := by
  obtain ⟨e, h1, h2⟩ := hG a (by rw [ha]; decide)
  rw [ha] at h2
  obtain ⟨r0, r1, r2, r3, r4, rfl, w0, w1, w2, w3, w4⟩ := h2
  exact ⟨r0, r1, r2, r3, r4, h1, w0, w1, w2, w3, w4⟩
theorem fF_o8 {D : va_G} {cI cL cC : ClassId} {gC : Int32} {gR : Int32} {t : Nat → Nat} {H : Heap} {a : Nat} (hG : tG D (fF cI cL cC gC gR) t H) (ha : t a = 8) : ∃ (r0 : Nat) (r1 : Nat) (r2 : Nat), va_at D vwCl (a, .inr (7, [.ref r0, .ref r1, .ref r2])) H ∧ t r0 = 29 ∧ t r1 = 30 ∧ t r2 = 31 := by
  obtain ⟨e, h1, h2⟩ := hG a (by rw [ha]; decide)
  rw [ha] at h2
  obtain ⟨r0, r1, r2, rfl, w0, w1, w2⟩ := h2
  exact ⟨r0, r1, r2, h1, w0, w1, w2⟩
theorem fF_o9 {D : va_G} {cI cL cC : ClassId} {gC : Int32} {gR : Int32} {t : Nat → Nat} {H : Heap} {a : Nat} (hG : tG D (fF cI cL cC gC gR) t H) (ha : t a = 9) : ∃ (r0 : Nat) (r1 : Nat) (r2 : Nat) (v3 : Int32) (v4 : Int64) (v5 : Int32) (v6 : Int32) (v7 : Int32) (v8 : Int32) (v9 : Int64), va_at D vwCl (a, .inr (4, [.ref r0, .ref r1, .ref r2, .int v3, .long v4, .int v5, .int v6, .int v7, .int v8, .long v9])) H ∧ t r0 = 32 ∧ t r1 = 33 ∧ t r2 = 34 := by
  obtain ⟨e, h1, h2⟩ := hG a (by rw [ha]; decide)
  rw [ha] at h2
  obtain ⟨r0, r1, r2, v3, v4, v5, v6, v7, v8, v9, rfl, w0, w1, w2⟩ := h2
  exact ⟨r0, r1, r2, v3, v4, v5, v6, v7, v8, v9, h1, w0, w1, w2⟩
theorem fF_o10 {D : va_G} {cI cL cC : ClassId} {gC : Int32} {gR : Int32} {t : Nat → Nat} {H : Heap} {a : Nat} (hG : tG D (fF cI cL cC gC gR) t H) (ha : t a = 10) : ∃ (f : Nat → Int32), va_at D vwCl (a, .inl (cI, 400, .inl f)) H := by
  obtain ⟨e, h1, h2⟩ := hG a (by rw [ha]; decide)
  rw [ha] at h2
  obtain ⟨f, rfl⟩ := h2
  exact ⟨f, h1⟩
theorem fF_o11 {D : va_G} {cI cL cC : ClassId} {gC : Int32} {gR : Int32} {t : Nat → Nat} {H : Heap} {a : Nat} (hG : tG D (fF cI cL cC gC gR) t H) (ha : t a = 11) : ∃ (f : Nat → Int32), va_at D vwCl (a, .inl (cI, 6, .inl f)) H := by
  obtain ⟨e, h1, h2⟩ := hG a (by rw [ha]; decide)
  rw [ha] at h2
  obtain ⟨f, rfl⟩ := h2
  exact ⟨f, h1⟩
theorem fF_o12 {D : va_G} {cI cL cC : ClassId} {gC : Int32} {gR : Int32} {t : Nat → Nat} {H : Heap} {a : Nat} (hG : tG D (fF cI cL cC gC gR) t H) (ha : t a = 12) : ∃ (f : Nat → Int32), va_at D vwCl (a, .inl (cI, 240, .inl f)) H := by
  obtain ⟨e, h1, h2⟩ := hG a (by rw [ha]; decide)
  rw [ha] at h2
  obtain ⟨f, rfl⟩ := h2
  exact ⟨f, h1⟩
theorem fF_o13 {D : va_G} {cI cL cC : ClassId} {gC : Int32} {gR : Int32} {t : Nat → Nat} {H : Heap} {a : Nat} (hG : tG D (fF cI cL cC gC gR) t H) (ha : t a = 13) : ∃ (f : Nat → Int32), va_at D vwCl (a, .inl (cI, 16, .inl f)) H := by
  obtain ⟨e, h1, h2⟩ := hG a (by rw [ha]; decide)
  rw [ha] at h2
  obtain ⟨f, rfl⟩ := h2
  exact ⟨f, h1⟩
theorem fF_o14 {D : va_G} {cI cL cC : ClassId} {gC : Int32} {gR : Int32} {t : Nat → Nat} {H : Heap} {a : Nat} (hG : tG D (fF cI cL cC gC gR) t H) (ha : t a = 14) : ∃ (f : Nat → Int32), va_at D vwCl (a, .inl (cI, 4, .inl f)) H := by
  obtain ⟨e, h1, h2⟩ := hG a (by rw [ha]; decide)
  rw [ha] at h2
  obtain ⟨f, rfl⟩ := h2
  exact ⟨f, h1⟩
theorem fF_o15 {D : va_G} {cI cL cC : ClassId} {gC : Int32} {gR : Int32} {t : Nat → Nat} {H : Heap} {a : Nat} (hG : tG D (fF cI cL cC gC gR) t H) (ha : t a = 15) : ∃ (f : Nat → Int32), va_at D vwCl (a, .inl (cI, 96, .inl f)) H := by
  obtain ⟨e, h1, h2⟩ := hG a (by rw [ha]; decide)
  rw [ha] at h2
  obtain ⟨f, rfl⟩ := h2
  exact ⟨f, h1⟩
theorem fF_o16 {D : va_G} {cI cL cC : ClassId} {gC : Int32} {gR : Int32} {t : Nat → Nat} {H : Heap} {a : Nat} (hG : tG D (fF cI cL cC gC gR) t H) (ha : t a = 16) : ∃ (f : Nat → Int32), va_at D vwCl (a, .inl (cI, 96, .inl f)) H := by
  obtain ⟨e, h1, h2⟩ := hG a (by rw [ha]; decide)
  rw [ha] at h2
  obtain ⟨f, rfl⟩ := h2
  exact ⟨f, h1⟩
theorem fF_o17 {D : va_G} {cI cL cC : ClassId} {gC : Int32} {gR : Int32} {t : Nat → Nat} {H : Heap} {a : Nat} (hG : tG D (fF cI cL cC gC gR) t H) (ha : t a = 17) : ∃ (f : Nat → Int64), va_at D vwCl (a, .inl (cL, 16, .inr (.inl f))) H := by
  obtain ⟨e, h1, h2⟩ := hG a (by rw [ha]; decide)
  rw [ha] at h2
  obtain ⟨f, rfl⟩ := h2
  exact ⟨f, h1⟩
theorem fF_o18 {D : va_G} {cI cL cC : ClassId} {gC : Int32} {gR : Int32} {t : Nat → Nat} {H : Heap} {a : Nat} (hG : tG D (fF cI cL cC gC gR) t H) (ha : t a = 18) : ∃ (f : Nat → Int64), va_at D vwCl (a, .inl (cL, 40, .inr (.inl f))) H := by
  obtain ⟨e, h1, h2⟩ := hG a (by rw [ha]; decide)
  rw [ha] at h2
  obtain ⟨f, rfl⟩ := h2
  exact ⟨f, h1⟩
theorem fF_o19 {D : va_G} {cI cL cC : ClassId} {gC : Int32} {gR : Int32} {t : Nat → Nat} {H : Heap} {a : Nat} (hG : tG D (fF cI cL cC gC gR) t H) (ha : t a = 19) : ∃ (f : Nat → Int32), va_at D vwCl (a, .inl (cI, 4, .inl f)) H := by
  obtain ⟨e, h1, h2⟩ := hG a (by rw [ha]; decide)
  rw [ha] at h2
  obtain ⟨f, rfl⟩ := h2
  exact ⟨f, h1⟩
theorem fF_o20 {D : va_G} {cI cL cC : ClassId} {gC : Int32} {gR : Int32} {t : Nat → Nat} {H : Heap} {a : Nat} (hG : tG D (fF cI cL cC gC gR) t H) (ha : t a = 20) : ∃ (f : Nat → Int64), va_at D vwCl (a, .inl (cL, 208, .inr (.inl f))) H := by
  obtain ⟨e, h1, h2⟩ := hG a (by rw [ha]; decide)
  rw [ha] at h2
  obtain ⟨f, rfl⟩ := h2
  exact ⟨f, h1⟩
theorem fF_o21 {D : va_G} {cI cL cC : ClassId} {gC : Int32} {gR : Int32} {t : Nat → Nat} {H : Heap} {a : Nat} (hG : tG D (fF cI cL cC gC gR) t H) (ha : t a = 21) : ∃ (f : Nat → Int32), va_at D vwCl (a, .inl (cI, 4, .inl f)) H ∧ (∀ j : Nat, j < 4 → f j = (-4)) := by
  obtain ⟨e, h1, h2⟩ := hG a (by rw [ha]; decide)
  rw [ha] at h2
  obtain ⟨f, rfl, w0⟩ := h2
  exact ⟨f, h1, w0⟩
theorem fF_o22 {D : va_G} {cI cL cC : ClassId} {gC : Int32} {gR : Int32} {t : Nat → Nat} {H : Heap} {a : Nat} (hG : tG D (fF cI cL cC gC gR) t H) (ha : t a = 22) : ∃ (f : Nat → Int32), va_at D vwCl (a, .inl (cI, 4, .inl f)) H := by
  obtain ⟨e, h1, h2⟩ := hG a (by rw [ha]; decide)
  rw [ha] at h2
  obtain ⟨f, rfl⟩ := h2
  exact ⟨f, h1⟩
theorem fF_o23 {D : va_G} {cI cL cC : ClassId} {gC : Int32} {gR : Int32} {t : Nat → Nat} {H : Heap} {a : Nat} (hG : tG D (fF cI cL cC gC gR) t H) (ha : t a = 23) : ∃ (f : Nat → Int32), va_at D vwCl (a, .inl (cI, 384, .inl f)) H ∧ (∀ j : Nat, j < 384 → f j = (-1)) := by
  obtain ⟨e, h1, h2⟩ := hG a (by rw [ha]; decide)
  rw [ha] at h2
  obtain ⟨f, rfl, w0⟩ := h2
  exact ⟨f, h1, w0⟩
theorem fF_o24 {D : va_G} {cI cL cC : ClassId} {gC : Int32} {gR : Int32} {t : Nat → Nat} {H : Heap} {a : Nat} (hG : tG D (fF cI cL cC gC gR) t H) (ha : t a = 24) : ∃ (f : Nat → Int32), va_at D vwCl (a, .inl (cI, 2, .inl f)) H := by
  obtain ⟨e, h1, h2⟩ := hG a (by rw [ha]; decide)
  rw [ha] at h2
  obtain ⟨f, rfl⟩ := h2
  exact ⟨f, h1⟩
theorem fF_o25 {D : va_G} {cI cL cC : ClassId} {gC : Int32} {gR : Int32} {t : Nat → Nat} {H : Heap} {a : Nat} (hG : tG D (fF cI cL cC gC gR) t H) (ha : t a = 25) : ∃ (f : Nat → Int32), va_at D vwCl (a, .inl (cI, 2, .inl f)) H := by
  obtain ⟨e, h1, h2⟩ := hG a (by rw [ha]; decide)
  rw [ha] at h2
  obtain ⟨f, rfl⟩ := h2
  exact ⟨f, h1⟩
theorem fF_o26 {D : va_G} {cI cL cC : ClassId} {gC : Int32} {gR : Int32} {t : Nat → Nat} {H : Heap} {a : Nat} (hG : tG D (fF cI cL cC gC gR) t H) (ha : t a = 26) : ∃ (f : Nat → Int32), va_at D vwCl (a, .inl (cI, 2, .inl f)) H := by
  obtain ⟨e, h1, h2⟩ := hG a (by rw [ha]; decide)
  rw [ha] at h2
  obtain ⟨f, rfl⟩ := h2
  exact ⟨f, h1⟩
theorem fF_o27 {D : va_G} {cI cL cC : ClassId} {gC : Int32} {gR : Int32} {t : Nat → Nat} {H : Heap} {a : Nat} (hG : tG D (fF cI cL cC gC gR) t H) (ha : t a = 27) : ∃ (f : Nat → Int32), va_at D vwCl (a, .inl (cI, 2, .inl f)) H := by
  obtain ⟨e, h1, h2⟩ := hG a (by rw [ha]; decide)
  rw [ha] at h2
  obtain ⟨f, rfl⟩ := h2
  exact ⟨f, h1⟩
theorem fF_o28 {D : va_G} {cI cL cC : ClassId} {gC : Int32} {gR : Int32} {t : Nat → Nat} {H : Heap} {a : Nat} (hG : tG D (fF cI cL cC gC gR) t H) (ha : t a = 28) : ∃ (f : Nat → Int32), va_at D vwCl (a, .inl (cI, 2, .inl f)) H ∧ (∀ j : Nat, j < 2 → f j = 0) := by
  obtain ⟨e, h1, h2⟩ := hG a (by rw [ha]; decide)
  rw [ha] at h2
  obtain ⟨f, rfl, w0⟩ := h2
  exact ⟨f, h1, w0⟩
theorem fF_o29 {D : va_G} {cI cL cC : ClassId} {gC : Int32} {gR : Int32} {t : Nat → Nat} {H : Heap} {a : Nat} (hG : tG D (fF cI cL cC gC gR) t H) (ha : t a = 29) : ∃ (f : Nat → Int32), va_at D vwCl (a, .inl (cI, 4, .inl f)) H ∧ (∀ j : Nat, j < 4 → f j = 0) := by
  obtain ⟨e, h1, h2⟩ := hG a (by rw [ha]; decide)
  rw [ha] at h2
  obtain ⟨f, rfl, w0⟩ := h2
  exact ⟨f, h1, w0⟩
theorem fF_o30 {D : va_G} {cI cL cC : ClassId} {gC : Int32} {gR : Int32} {t : Nat → Nat} {H : Heap} {a : Nat} (hG : tG D (fF cI cL cC gC gR) t H) (ha : t a = 30) : ∃ (f : Nat → Int32), va_at D vwCl (a, .inl (cI, 4, .inl f)) H ∧ (∀ j : Nat, j < 4 → f j = 0) := by
  obtain ⟨e, h1, h2⟩ := hG a (by rw [ha]; decide)
  rw [ha] at h2
  obtain ⟨f, rfl, w0⟩ := h2
  exact ⟨f, h1, w0⟩
theorem fF_o31 {D : va_G} {cI cL cC : ClassId} {gC : Int32} {gR : Int32} {t : Nat → Nat} {H : Heap} {a : Nat} (hG : tG D (fF cI cL cC gC gR) t H) (ha : t a = 31) : ∃ (f : Nat → Int32), va_at D vwCl (a, .inl (cI, 96, .inl f)) H ∧ (∀ j : Nat, j < 96 → f j = 0) := by
  obtain ⟨e, h1, h2⟩ := hG a (by rw [ha]; decide)
  rw [ha] at h2
  obtain ⟨f, rfl, w0⟩ := h2
  exact ⟨f, h1, w0⟩
theorem fF_o32 {D : va_G} {cI cL cC : ClassId} {gC : Int32} {gR : Int32} {t : Nat → Nat} {H : Heap} {a : Nat} (hG : tG D (fF cI cL cC gC gR) t H) (ha : t a = 32) : ∃ (f : Nat → Option Nat), va_at D vwCl (a, .inl (cC, 4, .inr (.inr (.inr (.inr f))))) H ∧ (∀ j : Nat, j < 4 → ∃ x : Nat, f j = some x ∧ t x = 5) := by
  obtain ⟨e, h1, h2⟩ := hG a (by rw [ha]; decide)
  rw [ha] at h2
  obtain ⟨f, rfl, w0⟩ := h2
  exact ⟨f, h1, w0⟩
theorem fF_o33 {D : va_G} {cI cL cC : ClassId} {gC : Int32} {gR : Int32} {t : Nat → Nat} {H : Heap} {a : Nat} (hG : tG D (fF cI cL cC gC gR) t H) (ha : t a = 33) : ∃ (f : Nat → Int32), va_at D vwCl (a, .inl (cI, 4, .inl f)) H := by
  obtain ⟨e, h1, h2⟩ := hG a (by rw [ha]; decide)
  rw [ha] at h2
  obtain ⟨f, rfl⟩ := h2
  exact ⟨f, h1⟩
theorem fF_o34 {D : va_G} {cI cL cC : ClassId} {gC : Int32} {gR : Int32} {t : Nat → Nat} {H : Heap} {a : Nat} (hG : tG D (fF cI cL cC gC gR) t H) (ha : t a = 34) : ∃ (f : Nat → Int32), va_at D vwCl (a, .inl (cI, 4, .inl f)) H := by
  obtain ⟨e, h1, h2⟩ := hG a (by rw [ha]; decide)
  rw [ha] at h2
  obtain ⟨f, rfl⟩ := h2
  exact ⟨f, h1⟩
theorem fF_o35 {D : va_G} {cI cL cC : ClassId} {gC : Int32} {gR : Int32} {t : Nat → Nat} {H : Heap} {a : Nat} (hG : tG D (fF cI cL cC gC gR) t H) (ha : t a = 35) : ∃ (f : Nat → Int32), va_at D vwCl (a, .inl (cI, 16, .inl f)) H := by
  obtain ⟨e, h1, h2⟩ := hG a (by rw [ha]; decide)
  rw [ha] at h2
  obtain ⟨f, rfl⟩ := h2
  exact ⟨f, h1⟩
theorem fF_o36 {D : va_G} {cI cL cC : ClassId} {gC : Int32} {gR : Int32} {t : Nat → Nat} {H : Heap} {a : Nat} (hG : tG D (fF cI cL cC gC gR) t H) (ha : t a = 36) : ∃ (f : Nat → Option Nat), va_at D vwCl (a, .inl (cC, 3, .inr (.inr (.inr (.inr f))))) H ∧ (∀ j : Nat, j < 3 → ∃ x : Nat, f j = some x ∧ t x = 5) := by
  obtain ⟨e, h1, h2⟩ := hG a (by rw [ha]; decide)
  rw [ha] at h2
  obtain ⟨f, rfl, w0⟩ := h2
  exact ⟨f, h1, w0⟩
theorem fF_o40 {D : va_G} {cI cL cC : ClassId} {gC : Int32} {gR : Int32} {t : Nat → Nat} {H : Heap} {a : Nat} (hG : tG D (fF cI cL cC gC gR) t H) (ha : t a = 40) : ∃ (r1 : Nat) (r4 : Nat) (r5 : Nat) (r6 : Nat) (r7 : Nat) (r9 : Nat) (r10 : Nat) (r11 : Nat) (r12 : Nat) (r14 : Nat) (r15 : Nat) (r16 : Nat) (r18 : Nat) (r19 : Nat) (r20 : Nat) (r21 : Nat) (r22 : Nat) (r23 : Nat) (r24 : Nat) (r25 : Nat) (r26 : Nat) (v27 : Int32) (v28 : Int32) (v29 : Int32) (v30 : Int32) (v31 : Int32) (r32 : Nat) (v33 : Int32) (v34 : Int32) (r35 : Nat), va_at D vwCl (a, .inr (9, [.int gR, .ref r1, .int 0, .int 0, .ref r4, .ref r5, .ref r6, .ref r7, .int 0, .ref r9, .ref r10, .ref r11, .ref r12, .int 0, .ref r14, .ref r15, .ref r16, .int 0, .ref r18, .ref r19, .ref r20, .ref r21, .ref r22, .ref r23, .ref r24, .ref r25, .ref r26, .int v27, .int v28, .int v29, .int v30, .int v31, .ref r32, .int v33, .int v34, .ref r35])) H ∧ t r1 = 41 ∧ t r4 = 42 ∧ t r5 = 43 ∧ t r6 = 44 ∧ t r7 = 45 ∧ t r9 = 46 ∧ t r10 = 47 ∧ t r11 = 48 ∧ t r12 = 49 ∧ t r14 = 50 ∧ t r15 = 51 ∧ t r16 = 52 ∧ t r18 = 53 ∧ t r19 = 54 ∧ t r20 = 55 ∧ t r21 = 56 ∧ t r22 = 57 ∧ t r23 = 58 ∧ t r24 = 59 ∧ t r25 = 60 ∧ t r26 = 61 ∧ t r32 = 62 ∧ t r35 = 63 := by
  obtain ⟨e, h1, h2⟩ := hG a (by rw [ha]; decide)
  rw [ha] at h2
  obtain ⟨r1, r4, r5, r6, r7, r9, r10, r11, r12, r14, r15, r16, r18, r19, r20, r21, r22, r23, r24, r25, r26, v27, v28, v29, v30, v31, r32, v33, v34, r35, rfl, w0, w1, w2, w3, w4, w5, w6, w7, w8, w9, w10, w11, w12, w13, w14, w15, w16, w17, w18, w19, w20, w21, w22⟩ := h2
  exact ⟨r1, r4, r5, r6, r7, r9, r10, r11, r12, r14, r15, r16, r18, r19, r20, r21, r22, r23, r24, r25, r26, v27, v28, v29, v30, v31, r32, v33, v34, r35, h1, w0, w1, w2, w3, w4, w5, w6, w7, w8, w9, w10, w11, w12, w13, w14, w15, w16, w17, w18, w19, w20, w21, w22⟩
theorem fF_o41 {D : va_G} {cI cL cC : ClassId} {gC : Int32} {gR : Int32} {t : Nat → Nat} {H : Heap} {a : Nat} (hG : tG D (fF cI cL cC gC gR) t H) (ha : t a = 41) : ∃ (f : Nat → Int32), va_at D vwCl (a, .inl (cI, 400, .inl f)) H := by
  obtain ⟨e, h1, h2⟩ := hG a (by rw [ha]; decide)
  rw [ha] at h2
  obtain ⟨f, rfl⟩ := h2
  exact ⟨f, h1⟩
theorem fF_o42 {D : va_G} {cI cL cC : ClassId} {gC : Int32} {gR : Int32} {t : Nat → Nat} {H : Heap} {a : Nat} (hG : tG D (fF cI cL cC gC gR) t H) (ha : t a = 42) : ∃ (f : Nat → Int32), va_at D vwCl (a, .inl (cI, 120, .inl f)) H := by
  obtain ⟨e, h1, h2⟩ := hG a (by rw [ha]; decide)
  rw [ha] at h2
  obtain ⟨f, rfl⟩ := h2
  exact ⟨f, h1⟩
theorem fF_o43 {D : va_G} {cI cL cC : ClassId} {gC : Int32} {gR : Int32} {t : Nat → Nat} {H : Heap} {a : Nat} (hG : tG D (fF cI cL cC gC gR) t H) (ha : t a = 43) : ∃ (f : Nat → Int32), va_at D vwCl (a, .inl (cI, 120, .inl f)) H := by
  obtain ⟨e, h1, h2⟩ := hG a (by rw [ha]; decide)
  rw [ha] at h2
  obtain ⟨f, rfl⟩ := h2
  exact ⟨f, h1⟩
theorem fF_o44 {D : va_G} {cI cL cC : ClassId} {gC : Int32} {gR : Int32} {t : Nat → Nat} {H : Heap} {a : Nat} (hG : tG D (fF cI cL cC gC gR) t H) (ha : t a = 44) : ∃ (f : Nat → Int32), va_at D vwCl (a, .inl (cI, 120, .inl f)) H := by
  obtain ⟨e, h1, h2⟩ := hG a (by rw [ha]; decide)
  rw [ha] at h2
  obtain ⟨f, rfl⟩ := h2
  exact ⟨f, h1⟩
theorem fF_o45 {D : va_G} {cI cL cC : ClassId} {gC : Int32} {gR : Int32} {t : Nat → Nat} {H : Heap} {a : Nat} (hG : tG D (fF cI cL cC gC gR) t H) (ha : t a = 45) : ∃ (f : Nat → Int32), va_at D vwCl (a, .inl (cI, 360, .inl f)) H := by
  obtain ⟨e, h1, h2⟩ := hG a (by rw [ha]; decide)
  rw [ha] at h2
  obtain ⟨f, rfl⟩ := h2
  exact ⟨f, h1⟩
theorem fF_o46 {D : va_G} {cI cL cC : ClassId} {gC : Int32} {gR : Int32} {t : Nat → Nat} {H : Heap} {a : Nat} (hG : tG D (fF cI cL cC gC gR) t H) (ha : t a = 46) : ∃ (f : Nat → Int32), va_at D vwCl (a, .inl (cI, 384, .inl f)) H := by
  obtain ⟨e, h1, h2⟩ := hG a (by rw [ha]; decide)
  rw [ha] at h2
  obtain ⟨f, rfl⟩ := h2
  exact ⟨f, h1⟩
theorem fF_o47 {D : va_G} {cI cL cC : ClassId} {gC : Int32} {gR : Int32} {t : Nat → Nat} {H : Heap} {a : Nat} (hG : tG D (fF cI cL cC gC gR) t H) (ha : t a = 47) : ∃ (f : Nat → Int64), va_at D vwCl (a, .inl (cL, 280, .inr (.inl f))) H ∧ (∀ j : Nat, j < 280 → f j = 0) := by
  obtain ⟨e, h1, h2⟩ := hG a (by rw [ha]; decide)
  rw [ha] at h2
  obtain ⟨f, rfl, w0⟩ := h2
  exact ⟨f, h1, w0⟩
theorem fF_o48 {D : va_G} {cI cL cC : ClassId} {gC : Int32} {gR : Int32} {t : Nat → Nat} {H : Heap} {a : Nat} (hG : tG D (fF cI cL cC gC gR) t H) (ha : t a = 48) : ∃ (f : Nat → Int64), va_at D vwCl (a, .inl (cL, 280, .inr (.inl f))) H := by
  obtain ⟨e, h1, h2⟩ := hG a (by rw [ha]; decide)
  rw [ha] at h2
  obtain ⟨f, rfl⟩ := h2
  exact ⟨f, h1⟩
theorem fF_o49 {D : va_G} {cI cL cC : ClassId} {gC : Int32} {gR : Int32} {t : Nat → Nat} {H : Heap} {a : Nat} (hG : tG D (fF cI cL cC gC gR) t H) (ha : t a = 49) : ∃ (f : Nat → Int64), va_at D vwCl (a, .inl (cL, 840, .inr (.inl f))) H := by
  obtain ⟨e, h1, h2⟩ := hG a (by rw [ha]; decide)
  rw [ha] at h2
  obtain ⟨f, rfl⟩ := h2
  exact ⟨f, h1⟩
theorem fF_o50 {D : va_G} {cI cL cC : ClassId} {gC : Int32} {gR : Int32} {t : Nat → Nat} {H : Heap} {a : Nat} (hG : tG D (fF cI cL cC gC gR) t H) (ha : t a = 50) : ∃ (f : Nat → Int32), va_at D vwCl (a, .inl (cI, 4, .inl f)) H ∧ (∀ j : Nat, j < 4 → f j = (-4)) := by
  obtain ⟨e, h1, h2⟩ := hG a (by rw [ha]; decide)
  rw [ha] at h2
  obtain ⟨f, rfl, w0⟩ := h2
  exact ⟨f, h1, w0⟩
theorem fF_o51 {D : va_G} {cI cL cC : ClassId} {gC : Int32} {gR : Int32} {t : Nat → Nat} {H : Heap} {a : Nat} (hG : tG D (fF cI cL cC gC gR) t H) (ha : t a = 51) : ∃ (f : Nat → Int32), va_at D vwCl (a, .inl (cI, 4, .inl f)) H := by
  obtain ⟨e, h1, h2⟩ := hG a (by rw [ha]; decide)
  rw [ha] at h2
  obtain ⟨f, rfl⟩ := h2
  exact ⟨f, h1⟩
theorem fF_o52 {D : va_G} {cI cL cC : ClassId} {gC : Int32} {gR : Int32} {t : Nat → Nat} {H : Heap} {a : Nat} (hG : tG D (fF cI cL cC gC gR) t H) (ha : t a = 52) : ∃ (f : Nat → Int32), va_at D vwCl (a, .inl (cI, 384, .inl f)) H ∧ (∀ j : Nat, j < 384 → f j = (-1)) := by
  obtain ⟨e, h1, h2⟩ := hG a (by rw [ha]; decide)
  rw [ha] at h2
  obtain ⟨f, rfl, w0⟩ := h2
  exact ⟨f, h1, w0⟩
theorem fF_o53 {D : va_G} {cI cL cC : ClassId} {gC : Int32} {gR : Int32} {t : Nat → Nat} {H : Heap} {a : Nat} (hG : tG D (fF cI cL cC gC gR) t H) (ha : t a = 53) : ∃ (f : Nat → Int32), va_at D vwCl (a, .inl (cI, 2, .inl f)) H := by
  obtain ⟨e, h1, h2⟩ := hG a (by rw [ha]; decide)
  rw [ha] at h2
  obtain ⟨f, rfl⟩ := h2
  exact ⟨f, h1⟩
theorem fF_o54 {D : va_G} {cI cL cC : ClassId} {gC : Int32} {gR : Int32} {t : Nat → Nat} {H : Heap} {a : Nat} (hG : tG D (fF cI cL cC gC gR) t H) (ha : t a = 54) : ∃ (f : Nat → Int32), va_at D vwCl (a, .inl (cI, 2, .inl f)) H := by
  obtain ⟨e, h1, h2⟩ := hG a (by rw [ha]; decide)
  rw [ha] at h2
  obtain ⟨f, rfl⟩ := h2
  exact ⟨f, h1⟩
theorem fF_o55 {D : va_G} {cI cL cC : ClassId} {gC : Int32} {gR : Int32} {t : Nat → Nat} {H : Heap} {a : Nat} (hG : tG D (fF cI cL cC gC gR) t H) (ha : t a = 55) : ∃ (f : Nat → Int32), va_at D vwCl (a, .inl (cI, 2, .inl f)) H := by
  obtain ⟨e, h1, h2⟩ := hG a (by rw [ha]; decide)
  rw [ha] at h2
  obtain ⟨f, rfl⟩ := h2
  exact ⟨f, h1⟩
theorem fF_o56 {D : va_G} {cI cL cC : ClassId} {gC : Int32} {gR : Int32} {t : Nat → Nat} {H : Heap} {a : Nat} (hG : tG D (fF cI cL cC gC gR) t H) (ha : t a = 56) : ∃ (f : Nat → Int32), va_at D vwCl (a, .inl (cI, 2, .inl f)) H := by
  obtain ⟨e, h1, h2⟩ := hG a (by rw [ha]; decide)
  rw [ha] at h2
  obtain ⟨f, rfl⟩ := h2
  exact ⟨f, h1⟩
theorem fF_o57 {D : va_G} {cI cL cC : ClassId} {gC : Int32} {gR : Int32} {t : Nat → Nat} {H : Heap} {a : Nat} (hG : tG D (fF cI cL cC gC gR) t H) (ha : t a = 57) : ∃ (f : Nat → Int32), va_at D vwCl (a, .inl (cI, 2, .inl f)) H ∧ (∀ j : Nat, j < 2 → f j = 0) := by
  obtain ⟨e, h1, h2⟩ := hG a (by rw [ha]; decide)
  rw [ha] at h2
  obtain ⟨f, rfl, w0⟩ := h2
  exact ⟨f, h1, w0⟩
theorem fF_o58 {D : va_G} {cI cL cC : ClassId} {gC : Int32} {gR : Int32} {t : Nat → Nat} {H : Heap} {a : Nat} (hG : tG D (fF cI cL cC gC gR) t H) (ha : t a = 58) : ∃ (f : Nat → Int32), va_at D vwCl (a, .inl (cI, 4, .inl f)) H ∧ (∀ j : Nat, j < 4 → f j = 0) := by
  obtain ⟨e, h1, h2⟩ := hG a (by rw [ha]; decide)
  rw [ha] at h2
  obtain ⟨f, rfl, w0⟩ := h2
  exact ⟨f, h1, w0⟩
theorem fF_o59 {D : va_G} {cI cL cC : ClassId} {gC : Int32} {gR : Int32} {t : Nat → Nat} {H : Heap} {a : Nat} (hG : tG D (fF cI cL cC gC gR) t H) (ha : t a = 59) : ∃ (f : Nat → Int32), va_at D vwCl (a, .inl (cI, 96, .inl f)) H ∧ (∀ j : Nat, j < 96 → f j = 0) := by
  obtain ⟨e, h1, h2⟩ := hG a (by rw [ha]; decide)
  rw [ha] at h2
  obtain ⟨f, rfl, w0⟩ := h2
  exact ⟨f, h1, w0⟩
theorem fF_o60 {D : va_G} {cI cL cC : ClassId} {gC : Int32} {gR : Int32} {t : Nat → Nat} {H : Heap} {a : Nat} (hG : tG D (fF cI cL cC gC gR) t H) (ha : t a = 60) : ∃ (f : Nat → Int32), va_at D vwCl (a, .inl (cI, 4, .inl f)) H ∧ (∀ j : Nat, j < 4 → f j = 0) := by
  obtain ⟨e, h1, h2⟩ := hG a (by rw [ha]; decide)
  rw [ha] at h2
  obtain ⟨f, rfl, w0⟩ := h2
  exact ⟨f, h1, w0⟩
theorem fF_o61 {D : va_G} {cI cL cC : ClassId} {gC : Int32} {gR : Int32} {t : Nat → Nat} {H : Heap} {a : Nat} (hG : tG D (fF cI cL cC gC gR) t H) (ha : t a = 61) : ∃ (f : Nat → Int32), va_at D vwCl (a, .inl (cI, 16, .inl f)) H := by
  obtain ⟨e, h1, h2⟩ := hG a (by rw [ha]; decide)
  rw [ha] at h2
  obtain ⟨f, rfl⟩ := h2
  exact ⟨f, h1⟩
theorem fF_o62 {D : va_G} {cI cL cC : ClassId} {gC : Int32} {gR : Int32} {t : Nat → Nat} {H : Heap} {a : Nat} (hG : tG D (fF cI cL cC gC gR) t H) (ha : t a = 62) : ∃ (f : Nat → Int32), va_at D vwCl (a, .inl (cI, 3, .inl f)) H := by
  obtain ⟨e, h1, h2⟩ := hG a (by rw [ha]; decide)
  rw [ha] at h2
  obtain ⟨f, rfl⟩ := h2
  exact ⟨f, h1⟩
theorem fF_o63 {D : va_G} {cI cL cC : ClassId} {gC : Int32} {gR : Int32} {t : Nat → Nat} {H : Heap} {a : Nat} (hG : tG D (fF cI cL cC gC gR) t H) (ha : t a = 63) : ∃ (f : Nat → Int64), va_at D vwCl (a, .inl (cL, 96, .inr (.inl f))) H := by
  obtain ⟨e, h1, h2⟩ := hG a (by rw [ha]; decide)
  rw [ha] at h2
  obtain ⟨f, rfl⟩ := h2
  exact ⟨f, h1⟩
end
section
theorem dX0_init_0 : decode cX0_init 0 = .ok (.aload_n 0, 1) := by decide +kernel
theorem dX0_init_1 : decode cX0_init 1 = .ok (.invokespecial 3, 3) := by decide +kernel
theorem dX0_init_4 : decode cX0_init 4 = .ok (.aload_n 0, 1) := by decide +kernel
theorem dX0_init_5 : decode cX0_init 5 = .ok (.bipush 16, 2) := by decide +kernel
theorem dX0_init_7 : decode cX0_init 7 = .ok (.newarray .long, 2) := by decide +kernel
theorem dX0_init_9 : decode cX0_init 9 = .ok (.putfield 9, 3) := by decide +kernel
theorem dX0_init_12 : decode cX0_init 12 = .ok (.aload_n 0, 1) := by decide +kernel
theorem dX0_init_13 : decode cX0_init 13 = .ok (.bipush 40, 2) := by decide +kernel
theorem dX0_init_15 : decode cX0_init 15 = .ok (.newarray .long, 2) := by decide +kernel
theorem dX0_init_17 : decode cX0_init 17 = .ok (.putfield 15, 3) := by decide +kernel
theorem dX0_init_20 : decode cX0_init 20 = .ok (.aload_n 0, 1) := by decide +kernel
theorem dX0_init_21 : decode cX0_init 21 = .ok (.iconst 4, 1) := by decide +kernel
theorem dX0_init_22 : decode cX0_init 22 = .ok (.newarray .int, 2) := by decide +kernel
theorem dX0_init_24 : decode cX0_init 24 = .ok (.putfield 18, 3) := by decide +kernel
theorem dX0_init_27 : decode cX0_init 27 = .ok (.aload_n 0, 1) := by decide +kernel
theorem dX0_init_28 : decode cX0_init 28 = .ok (.sipush 208, 3) := by decide +kernel
theorem dX0_init_31 : decode cX0_init 31 = .ok (.newarray .long, 2) := by decide +kernel
theorem dX0_init_33 : decode cX0_init 33 = .ok (.putfield 22, 3) := by decide +kernel
theorem dX0_init_36 : decode cX0_init 36 = .ok (.aload_n 0, 1) := by decide +kernel
theorem dX0_init_37 : decode cX0_init 37 = .ok (.lconst 0, 1) := by decide +kernel
theorem dX0_init_38 : decode cX0_init 38 = .ok (.putfield 25, 3) := by decide +kernel
theorem dX0_init_41 : decode cX0_init 41 = .ok (.aload_n 0, 1) := by decide +kernel
theorem dX0_init_42 : decode cX0_init 42 = .ok (.lconst 0, 1) := by decide +kernel
theorem dX0_init_43 : decode cX0_init 43 = .ok (.putfield 29, 3) := by decide +kernel
theorem dX0_init_46 : decode cX0_init 46 = .ok (.aload_n 0, 1) := by decide +kernel
theorem dX0_init_47 : decode cX0_init 47 = .ok (.lconst 0, 1) := by decide +kernel
theorem dX0_init_48 : decode cX0_init 48 = .ok (.putfield 32, 3) := by decide +kernel
theorem dX0_init_51 : decode cX0_init 51 = .ok (.aload_n 0, 1) := by decide +kernel
theorem dX0_init_52 : decode cX0_init 52 = .ok (.iconst 0, 1) := by decide +kernel
theorem dX0_init_53 : decode cX0_init 53 = .ok (.putfield 35, 3) := by decide +kernel
theorem dX0_init_56 : decode cX0_init 56 = .ok (.return_, 1) := by decide +kernel
set_option maxRecDepth 20000 in
theorem ggX1_init_J7_fill_53178 : GoodIn wsX1_init wsJ7_fill_53178 := goodIn_r _ [12] (by decide +kernel) (by decide +kernel)
set_option maxRecDepth 20000 in
theorem gX1_init_J7_fill_53178 : GoodIn wsX1_init (va_wsS RX1 25 yJ7_fill_53178 wsJ7_fill_53178) := goodIn_app (goodIn_of _ (by decide +kernel)) ggX1_init_J7_fill_53178
theorem dX1_init_0 : decode cX1_init 0 = .ok (.aload_n 0, 1) := by decide +kernel
theorem dX1_init_1 : decode cX1_init 1 = .ok (.invokespecial 3, 3) := by decide +kernel
theorem dX1_init_4 : decode cX1_init 4 = .ok (.aload_n 0, 1) := by decide +kernel
theorem dX1_init_5 : decode cX1_init 5 = .ok (.iconst 4, 1) := by decide +kernel
theorem dX1_init_6 : decode cX1_init 6 = .ok (.newarray .int, 2) := by decide +kernel
theorem dX1_init_8 : decode cX1_init 8 = .ok (.putfield 9, 3) := by decide +kernel
theorem dX1_init_11 : decode cX1_init 11 = .ok (.aload_n 0, 1) := by decide +kernel
theorem dX1_init_12 : decode cX1_init 12 = .ok (.iconst 4, 1) := by decide +kernel
theorem dX1_init_13 : decode cX1_init 13 = .ok (.newarray .int, 2) := by decide +kernel
theorem dX1_init_15 : decode cX1_init 15 = .ok (.putfield 15, 3) := by decide +kernel
theorem dX1_init_18 : decode cX1_init 18 = .ok (.aload_n 0, 1) := by decide +kernel
theorem dX1_init_19 : decode cX1_init 19 = .ok (.sipush 384, 3) := by decide +kernel
theorem dX1_init_22 : decode cX1_init 22 = .ok (.newarray .int, 2) := by decide +kernel
theorem dX1_init_24 : decode cX1_init 24 = .ok (.putfield 18, 3) := by decide +kernel
theorem dX1_init_27 : decode cX1_init 27 = .ok (.aload_n 0, 1) := by decide +kernel
theorem dX1_init_28 : decode cX1_init 28 = .ok (.iconst 0, 1) := by decide +kernel
theorem dX1_init_29 : decode cX1_init 29 = .ok (.putfield 21, 3) := by decide +kernel
theorem dX1_init_32 : decode cX1_init 32 = .ok (.aload_n 0, 1) := by decide +kernel
theorem dX1_init_33 : decode cX1_init 33 = .ok (.getfield 9, 3) := by decide +kernel
theorem dX1_init_36 : decode cX1_init 36 = .ok (.bipush (-4), 2) := by decide +kernel
theorem dX1_init_38 : decode cX1_init 38 = .ok (.invokestatic 25, 3) := by decide +kernel
theorem dX1_init_41 : decode cX1_init 41 = .ok (.aload_n 0, 1) := by decide +kernel
theorem dX1_init_42 : decode cX1_init 42 = .ok (.getfield 18, 3) := by decide +kernel
theorem dX1_init_45 : decode cX1_init 45 = .ok (.iconst (-1), 1) := by decide +kernel
theorem dX1_init_46 : decode cX1_init 46 = .ok (.invokestatic 25, 3) := by decide +kernel
theorem dX1_init_49 : decode cX1_init 49 = .ok (.return_, 1) := by decide +kernel
theorem dX3_init_0 : decode cX3_init 0 = .ok (.aload_n 0, 1) := by decide +kernel
theorem dX3_init_1 : decode cX3_init 1 = .ok (.invokespecial 3, 3) := by decide +kernel
theorem dX3_init_4 : decode cX3_init 4 = .ok (.aload_n 0, 1) := by decide +kernel
theorem dX3_init_5 : decode cX3_init 5 = .ok (.iconst 2, 1) := by decide +kernel
theorem dX3_init_6 : decode cX3_init 6 = .ok (.newarray .int, 2) := by decide +kernel
theorem dX3_init_8 : decode cX3_init 8 = .ok (.putfield 9, 3) := by decide +kernel
theorem dX3_init_11 : decode cX3_init 11 = .ok (.aload_n 0, 1) := by decide +kernel
theorem dX3_init_12 : decode cX3_init 12 = .ok (.iconst 2, 1) := by decide +kernel
theorem dX3_init_13 : decode cX3_init 13 = .ok (.newarray .int, 2) := by decide +kernel
theorem dX3_init_15 : decode cX3_init 15 = .ok (.putfield 15, 3) := by decide +kernel
theorem dX3_init_18 : decode cX3_init 18 = .ok (.aload_n 0, 1) := by decide +kernel
theorem dX3_init_19 : decode cX3_init 19 = .ok (.iconst 2, 1) := by decide +kernel
theorem dX3_init_20 : decode cX3_init 20 = .ok (.newarray .int, 2) := by decide +kernel
theorem dX3_init_22 : decode cX3_init 22 = .ok (.putfield 18, 3) := by decide +kernel
theorem dX3_init_25 : decode cX3_init 25 = .ok (.aload_n 0, 1) := by decide +kernel
theorem dX3_init_26 : decode cX3_init 26 = .ok (.iconst 2, 1) := by decide +kernel
theorem dX3_init_27 : decode cX3_init 27 = .ok (.newarray .int, 2) := by decide +kernel
theorem dX3_init_29 : decode cX3_init 29 = .ok (.putfield 21, 3) := by decide +kernel
theorem dX3_init_32 : decode cX3_init 32 = .ok (.aload_n 0, 1) := by decide +kernel
theorem dX3_init_33 : decode cX3_init 33 = .ok (.iconst 2, 1) := by decide +kernel
theorem dX3_init_34 : decode cX3_init 34 = .ok (.newarray .int, 2) := by decide +kernel
theorem dX3_init_36 : decode cX3_init 36 = .ok (.putfield 24, 3) := by decide +kernel
theorem dX3_init_39 : decode cX3_init 39 = .ok (.return_, 1) := by decide +kernel
theorem dX4_init_0 : decode cX4_init 0 = .ok (.aload_n 0, 1) := by decide +kernel
theorem dX4_init_1 : decode cX4_init 1 = .ok (.invokespecial 3, 3) := by decide +kernel
theorem dX4_init_4 : decode cX4_init 4 = .ok (.aload_n 0, 1) := by decide +kernel
theorem dX4_init_5 : decode cX4_init 5 = .ok (.sipush 240, 3) := by decide +kernel
theorem dX4_init_8 : decode cX4_init 8 = .ok (.newarray .int, 2) := by decide +kernel
theorem dX4_init_10 : decode cX4_init 10 = .ok (.putfield 9, 3) := by decide +kernel
theorem dX4_init_13 : decode cX4_init 13 = .ok (.aload_n 0, 1) := by decide +kernel
theorem dX4_init_14 : decode cX4_init 14 = .ok (.bipush 16, 2) := by decide +kernel
theorem dX4_init_16 : decode cX4_init 16 = .ok (.newarray .int, 2) := by decide +kernel
theorem dX4_init_18 : decode cX4_init 18 = .ok (.putfield 15, 3) := by decide +kernel
theorem dX4_init_21 : decode cX4_init 21 = .ok (.aload_n 0, 1) := by decide +kernel
theorem dX4_init_22 : decode cX4_init 22 = .ok (.iconst 4, 1) := by decide +kernel
theorem dX4_init_23 : decode cX4_init 23 = .ok (.newarray .int, 2) := by decide +kernel
theorem dX4_init_25 : decode cX4_init 25 = .ok (.putfield 18, 3) := by decide +kernel
theorem dX4_init_28 : decode cX4_init 28 = .ok (.aload_n 0, 1) := by decide +kernel
theorem dX4_init_29 : decode cX4_init 29 = .ok (.iconst 0, 1) := by decide +kernel
theorem dX4_init_30 : decode cX4_init 30 = .ok (.putfield 21, 3) := by decide +kernel
theorem dX4_init_33 : decode cX4_init 33 = .ok (.aload_n 0, 1) := by decide +kernel
theorem dX4_init_34 : decode cX4_init 34 = .ok (.iconst 0, 1) := by decide +kernel
theorem dX4_init_35 : decode cX4_init 35 = .ok (.putfield 25, 3) := by decide +kernel
theorem dX4_init_38 : decode cX4_init 38 = .ok (.aload_n 0, 1) := by decide +kernel
theorem dX4_init_39 : decode cX4_init 39 = .ok (.iconst 0, 1) := by decide +kernel
theorem dX4_init_40 : decode cX4_init 40 = .ok (.putfield 28, 3) := by decide +kernel
theorem dX4_init_43 : decode cX4_init 43 = .ok (.return_, 1) := by decide +kernel
set_option maxRecDepth 20000 in
theorem ggX6_init_J7_fill_53178 : GoodIn wsX6_init wsJ7_fill_53178 := goodIn_r _ [10] (by decide +kernel) (by decide +kernel)
set_option maxRecDepth 20000 in
theorem gX6_init_J7_fill_53178 : GoodIn wsX6_init (va_wsS RX6 18 yJ7_fill_53178 wsJ7_fill_53178) := goodIn_app (goodIn_of _ (by decide +kernel)) ggX6_init_J7_fill_53178
theorem dX6_init_0 : decode cX6_init 0 = .ok (.aload_n 0, 1) := by decide +kernel
theorem dX6_init_1 : decode cX6_init 1 = .ok (.invokespecial 3, 3) := by decide +kernel
theorem dX6_init_4 : decode cX6_init 4 = .ok (.aload_n 0, 1) := by decide +kernel
theorem dX6_init_5 : decode cX6_init 5 = .ok (.bipush 96, 2) := by decide +kernel
theorem dX6_init_7 : decode cX6_init 7 = .ok (.newarray .int, 2) := by decide +kernel
theorem dX6_init_9 : decode cX6_init 9 = .ok (.putfield 9, 3) := by decide +kernel
theorem dX6_init_12 : decode cX6_init 12 = .ok (.aload_n 0, 1) := by decide +kernel
theorem dX6_init_13 : decode cX6_init 13 = .ok (.bipush 96, 2) := by decide +kernel
theorem dX6_init_15 : decode cX6_init 15 = .ok (.newarray .int, 2) := by decide +kernel
theorem dX6_init_17 : decode cX6_init 17 = .ok (.putfield 15, 3) := by decide +kernel
theorem dX6_init_20 : decode cX6_init 20 = .ok (.aload_n 0, 1) := by decide +kernel
theorem dX6_init_21 : decode cX6_init 21 = .ok (.getfield 15, 3) := by decide +kernel
theorem dX6_init_24 : decode cX6_init 24 = .ok (.bipush 10, 2) := by decide +kernel
theorem dX6_init_26 : decode cX6_init 26 = .ok (.invokestatic 18, 3) := by decide +kernel
theorem dX6_init_29 : decode cX6_init 29 = .ok (.return_, 1) := by decide +kernel
theorem dX7_init_0 : decode cX7_init 0 = .ok (.aload_n 0, 1) := by decide +kernel
theorem dX7_init_1 : decode cX7_init 1 = .ok (.invokespecial 3, 3) := by decide +kernel
theorem dX7_init_4 : decode cX7_init 4 = .ok (.aload_n 0, 1) := by decide +kernel
theorem dX7_init_5 : decode cX7_init 5 = .ok (.sipush 400, 3) := by decide +kernel
theorem dX7_init_8 : decode cX7_init 8 = .ok (.newarray .int, 2) := by decide +kernel
theorem dX7_init_10 : decode cX7_init 10 = .ok (.putfield 9, 3) := by decide +kernel
theorem dX7_init_13 : decode cX7_init 13 = .ok (.aload_n 0, 1) := by decide +kernel
theorem dX7_init_14 : decode cX7_init 14 = .ok (.bipush 6, 2) := by decide +kernel
theorem dX7_init_16 : decode cX7_init 16 = .ok (.newarray .int, 2) := by decide +kernel
theorem dX7_init_18 : decode cX7_init 18 = .ok (.putfield 15, 3) := by decide +kernel
theorem dX7_init_21 : decode cX7_init 21 = .ok (.aload_n 0, 1) := by decide +kernel
theorem dX7_init_22 : decode cX7_init 22 = .ok (.iconst 0, 1) := by decide +kernel
theorem dX7_init_23 : decode cX7_init 23 = .ok (.putfield 18, 3) := by decide +kernel
theorem dX7_init_26 : decode cX7_init 26 = .ok (.aload_n 0, 1) := by decide +kernel
theorem dX7_init_27 : decode cX7_init 27 = .ok (.iconst 0, 1) := by decide +kernel
theorem dX7_init_28 : decode cX7_init 28 = .ok (.putfield 22, 3) := by decide +kernel
theorem dX7_init_31 : decode cX7_init 31 = .ok (.return_, 1) := by decide +kernel
theorem dX8_init_0 : decode cX8_init 0 = .ok (.aload_n 0, 1) := by decide +kernel
theorem dX8_init_1 : decode cX8_init 1 = .ok (.invokespecial 3, 3) := by decide +kernel
theorem dX8_init_4 : decode cX8_init 4 = .ok (.aload_n 0, 1) := by decide +kernel
theorem dX8_init_5 : decode cX8_init 5 = .ok (.iconst 4, 1) := by decide +kernel
theorem dX8_init_6 : decode cX8_init 6 = .ok (.newarray .int, 2) := by decide +kernel
theorem dX8_init_8 : decode cX8_init 8 = .ok (.putfield 9, 3) := by decide +kernel
theorem dX8_init_11 : decode cX8_init 11 = .ok (.aload_n 0, 1) := by decide +kernel
theorem dX8_init_12 : decode cX8_init 12 = .ok (.iconst 4, 1) := by decide +kernel
theorem dX8_init_13 : decode cX8_init 13 = .ok (.newarray .int, 2) := by decide +kernel
theorem dX8_init_15 : decode cX8_init 15 = .ok (.putfield 15, 3) := by decide +kernel
theorem dX8_init_18 : decode cX8_init 18 = .ok (.aload_n 0, 1) := by decide +kernel
theorem dX8_init_19 : decode cX8_init 19 = .ok (.bipush 96, 2) := by decide +kernel
theorem dX8_init_21 : decode cX8_init 21 = .ok (.newarray .int, 2) := by decide +kernel
theorem dX8_init_23 : decode cX8_init 23 = .ok (.putfield 18, 3) := by decide +kernel
theorem dX8_init_26 : decode cX8_init 26 = .ok (.return_, 1) := by decide +kernel
theorem df_X7 : ∀ j, j < 4 → defaultValue (tyX7 j) = vp_V [.null, .null, .int 0, .int 0] j := fun j hj => by rcases (show j = 0 ∨ j = 1 ∨ j = 2 ∨ j = 3 by omega) with rfl | rfl | rfl | rfl <;> rfl
theorem df_X4 : ∀ j, j < 6 → defaultValue (tyX4 j) = vp_V [.null, .null, .null, .int 0, .int 0, .int 0] j := fun j hj => by rcases (show j = 0 ∨ j = 1 ∨ j = 2 ∨ j = 3 ∨ j = 4 ∨ j = 5 by omega) with rfl | rfl | rfl | rfl | rfl | rfl <;> rfl
theorem df_X6 : ∀ j, j < 2 → defaultValue (tyX6 j) = vp_V [.null, .null] j := fun j hj => by rcases (show j = 0 ∨ j = 1 by omega) with rfl | rfl <;> rfl
theorem df_X0 : ∀ j, j < 8 → defaultValue (tyX0 j) = vp_V [.null, .null, .null, .null, .long 0, .long 0, .long 0, .int 0] j := fun j hj => by rcases (show j = 0 ∨ j = 1 ∨ j = 2 ∨ j = 3 ∨ j = 4 ∨ j = 5 ∨ j = 6 ∨ j = 7 by omega) with rfl | rfl | rfl | rfl | rfl | rfl | rfl | rfl <;> rfl
theorem df_X1 : ∀ j, j < 4 → defaultValue (tyX1 j) = vp_V [.null, .null, .null, .int 0] j := fun j hj => by rcases (show j = 0 ∨ j = 1 ∨ j = 2 ∨ j = 3 by omega) with rfl | rfl | rfl | rfl <;> rfl
theorem df_X3 : ∀ j, j < 5 → defaultValue (tyX3 j) = vp_V [.null, .null, .null, .null, .null] j := fun j hj => by rcases (show j = 0 ∨ j = 1 ∨ j = 2 ∨ j = 3 ∨ j = 4 by omega) with rfl | rfl | rfl | rfl | rfl <;> rfl
theorem df_X8 : ∀ j, j < 3 → defaultValue (tyX8 j) = vp_V [.null, .null, .null] j := fun j hj => by rcases (show j = 0 ∨ j = 1 ∨ j = 2 by omega) with rfl | rfl | rfl <;> rfl
theorem df_X5 : ∀ j, j < 10 → defaultValue (tyX5 j) = vp_V [.null, .null, .null, .int 0, .long 0, .int 0, .int 0, .int 0, .int 0, .long 0] j := fun j hj => by rcases (show j = 0 ∨ j = 1 ∨ j = 2 ∨ j = 3 ∨ j = 4 ∨ j = 5 ∨ j = 6 ∨ j = 7 ∨ j = 8 ∨ j = 9 by omega) with rfl | rfl | rfl | rfl | rfl | rfl | rfl | rfl | rfl | rfl <;> rfl
theorem df_X9 : ∀ j, j < 18 → defaultValue (tyX9 j) = vp_V [.null, .null, .null, .null, .int 0, .int 0, .null, .null, .null, .null, .null, .null, .null, .int 0, .null, .null, .null, .null] j := fun j hj => by rcases (show j = 0 ∨ j = 1 ∨ j = 2 ∨ j = 3 ∨ j = 4 ∨ j = 5 ∨ j = 6 ∨ j = 7 ∨ j = 8 ∨ j = 9 ∨ j = 10 ∨ j = 11 ∨ j = 12 ∨ j = 13 ∨ j = 14 ∨ j = 15 ∨ j = 16 ∨ j = 17 by omega) with rfl | rfl | rfl | rfl | rfl | rfl | rfl | rfl | rfl | rfl | rfl | rfl | rfl | rfl | rfl | rfl | rfl | rfl <;> rfl
theorem df_X10 : ∀ j, j < 36 → defaultValue (tyX10 j) = vp_V [.int 0, .null, .int 0, .int 0, .null, .null, .null, .null, .int 0, .null, .null, .null, .null, .int 0, .null, .null, .null, .int 0, .null, .null, .null, .null, .null, .null, .null, .null, .null, .int 0, .int 0, .int 0, .int 0, .int 0, .null, .int 0, .int 0, .null] j := fun j hj => by rcases (show j = 0 ∨ j = 1 ∨ j = 2 ∨ j = 3 ∨ j = 4 ∨ j = 5 ∨ j = 6 ∨ j = 7 ∨ j = 8 ∨ j = 9 ∨ j = 10 ∨ j = 11 ∨ j = 12 ∨ j = 13 ∨ j = 14 ∨ j = 15 ∨ j = 16 ∨ j = 17 ∨ j = 18 ∨ j = 19 ∨ j = 20 ∨ j = 21 ∨ j = 22 ∨ j = 23 ∨ j = 24 ∨ j = 25 ∨ j = 26 ∨ j = 27 ∨ j = 28 ∨ j = 29 ∨ j = 30 ∨ j = 31 ∨ j = 32 ∨ j = 33 ∨ j = 34 ∨ j = 35 by omega) with rfl | rfl | rfl | rfl | rfl | rfl | rfl | rfl | rfl | rfl | rfl | rfl | rfl | rfl | rfl | rfl | rfl | rfl | rfl | rfl | rfl | rfl | rfl | rfl | rfl | rfl | rfl | rfl | rfl | rfl | rfl | rfl | rfl | rfl | rfl | rfl <;> rfl
set_option maxHeartbeats 4000000 in
set_option maxRecDepth 100000 in
theorem cc_X7 (l : Launch) (D : va_G) (cI cL cC : ClassId) (gR : Int32) (h0 : Nat) : Met l yX7_init wsX7_init ({ frames := 1, cells := 2, slots := 406, locals := 12 }) (cP D cI cL cC 6 [.null, .null, .int 0, .int 0] h0) (cQ D (fF cI cL cC 0 gR) [2, 10, 11] h0) 2 406 (fun q => h0 ≤ q) := by
  refine cM_ofW (cc := cX7_init) (maxL := 1) (by decide) rfl rfl (by decide) ?_
  intro p e s m below meth c hx hb hr hml hown hts hlk hin hz at0 hK hE hS ls hl
  have hl : lv_has ls 1 [(0, .ref h0)] := hl
  have in7 : ∀ w ∈ wsX70, w ∈ wsX7_init := fun w h => List.mem_cons_of_mem _ (List.mem_append_right _ h)
  refine lv_aload_n hx hb dX7_init_0 rfl (lv_at hl 0 rfl) ?_
  refine W.objInit hx hb hown (hts (.methodLink RX7 3 objectInit) (List.mem_of_getElem? (i := 1) rfl)) (hts (.instanceMethod objectInit) (List.mem_of_getElem? (i := 2) rfl)) (hts (.code objectInit ⟨#[0xb1]⟩ 1 none) (List.mem_of_getElem? (i := 3) rfl)) rfl (by rw [hml]; exact hl.1) rfl dX7_init_1 (Nat.le_of_ble_eq_true rfl) (Nat.le_of_ble_eq_true rfl) ?_
  refine W.eq (g2 := F0 m 4 ls []) rfl ?_
  refine lv_aload_n hx hb dX7_init_4 rfl (lv_at hl 0 rfl) ?_
  refine lv_sipush (v := 400) hx hb dX7_init_5 (by decide) ?_
  refine nw_newI (N := 400) (z := h0 + 1) hx hb (hts (.arrayClass .int) (List.mem_of_getElem? (i := 4) rfl)) hK hS hz (Nat.le_add_right _ _) (by decide) (by decide) (by decide) (Nat.le_of_ble_eq_true rfl) (Nat.le_of_ble_eq_true rfl) dX7_init_8 (fun H at_1 hz o_2 hS => ?_)
  replace at0 := va_at.keptA (b := h0) (z := 1) 0 at0 o_2 (Nat.le_of_ble_eq_true rfl)
  clear o_2
  have hz : H.size = h0 + 2 := hz
  refine nw_putF (D := D) (ci := 6) (v := .ref (h0 + 1)) (ty := .array .int) (C := RX7) (T := TX7) (N := 4) hx hb hts in7 tyX7 tyX7_ok nmX7 hown hK hS (Nat.le_refl _) at0 rfl 0 (by decide) (hts (.fieldLink RX7 9 "RiverModel$Text" "bytes" "[I") (List.mem_of_getElem? (i := 5) rfl)) (fun _ h9 => h9) rfl hin rfl (by decide +kernel) rfl rfl (Nat.le_of_ble_eq_true rfl) dX7_init_10 (fun H locs at0 hz_4 o_3 hS => ?_)
  have at0 : va_at D vwCl (h0, .inr (6, [.ref (h0 + 1), .null, .int 0, .int 0])) H := at0
  replace hz : H.size = h0 + 2 := hz_4.trans hz
  replace at_1 := va_at.keptP (b := h0) (j := 0) 1 at_1 o_3 rfl
  clear o_3 hz_4
  refine lv_aload_n hx hb dX7_init_13 rfl (lv_at hl 0 rfl) ?_
  refine lv_pc (pc2 := 14) rfl ?_
  refine lv_bipush (v := 6) hx hb dX7_init_14 (by decide) ?_
  refine nw_newI (N := 6) (z := h0 + 2) hx hb (hts (.arrayClass .int) (List.mem_of_getElem? (i := 4) rfl)) hK hS hz (Nat.le_add_right _ _) (by decide) (by decide) (by decide) (Nat.le_of_ble_eq_true rfl) (Nat.le_of_ble_eq_true rfl) dX7_init_16 (fun H at_5 hz o_6 hS => ?_)
  replace at0 := va_at.keptA (b := h0) (z := 2) 0 at0 o_6 (Nat.le_of_ble_eq_true rfl)
  replace at_1 := va_at.keptA (b := h0) (z := 2) 1 at_1 o_6 (Nat.le_of_ble_eq_true rfl)
  clear o_6
  have hz : H.size = h0 + 3 := hz
  refine nw_putF (D := D) (ci := 6) (v := .ref (h0 + 2)) (ty := .array .int) (C := RX7) (T := TX7) (N := 4) hx hb hts in7 tyX7 tyX7_ok nmX7 hown hK hS (Nat.le_refl _) at0 rfl 1 (by decide) (hts (.fieldLink RX7 15 "RiverModel$Text" "row" "[I") (List.mem_of_getElem? (i := 6) rfl)) (fun _ h9 => h9) rfl hin rfl (by decide +kernel) rfl rfl (Nat.le_of_ble_eq_true rfl) dX7_init_18 (fun H locs at0 hz_8 o_7 hS => ?_)
  have at0 : va_at D vwCl (h0, .inr (6, [.ref (h0 + 1), .ref (h0 + 2), .int 0, .int 0])) H := at0
  replace hz : H.size = h0 + 3 := hz_8.trans hz
  replace at_1 := va_at.keptP (b := h0) (j := 0) 1 at_1 o_7 rfl
  replace at_5 := va_at.keptP (b := h0) (j := 0) 2 at_5 o_7 rfl
  clear o_7 hz_8
  refine lv_aload_n hx hb dX7_init_21 rfl (lv_at hl 0 rfl) ?_
  refine lv_iconst (v := 0) hx hb dX7_init_22 (by decide) ?_
  refine nw_put (D := D) (ci := 6) (v := .int 0) (ty := .int) (C := RX7) (T := TX7) (N := 4) hx hb hts in7 tyX7 tyX7_ok nmX7 hown hK hS (Nat.le_refl _) at0 rfl 2 (by decide) (hts (.fieldLink RX7 18 "RiverModel$Text" "length" "I") (List.mem_of_getElem? (i := 7) rfl)) (fun _ h9 => h9) rfl (by decide +kernel) rfl rfl (Nat.le_of_ble_eq_true rfl) dX7_init_23 (fun H locs at0 hz_10 o_9 hS => ?_)
  have at0 : va_at D vwCl (h0, .inr (6, [.ref (h0 + 1), .ref (h0 + 2), .int 0, .int 0])) H := at0
  replace hz : H.size = h0 + 3 := hz_10.trans hz
  replace at_1 := va_at.keptP (b := h0) (j := 0) 1 at_1 o_9 rfl
  replace at_5 := va_at.keptP (b := h0) (j := 0) 2 at_5 o_9 rfl
  clear o_9 hz_10
  refine lv_aload_n hx hb dX7_init_26 rfl (lv_at hl 0 rfl) ?_
  refine lv_iconst (v := 0) hx hb dX7_init_27 (by decide) ?_
  refine lv_pc (pc2 := 28) rfl ?_
  refine nw_put (D := D) (ci := 6) (v := .int 0) (ty := .int) (C := RX7) (T := TX7) (N := 4) hx hb hts in7 tyX7 tyX7_ok nmX7 hown hK hS (Nat.le_refl _) at0 rfl 3 (by decide) (hts (.fieldLink RX7 22 "RiverModel$Text" "at" "I") (List.mem_of_getElem? (i := 8) rfl)) (fun _ h9 => h9) rfl (by decide +kernel) rfl rfl (Nat.le_of_ble_eq_true rfl) dX7_init_28 (fun H locs at0 hz_12 o_11 hS => ?_)
  have at0 : va_at D vwCl (h0, .inr (6, [.ref (h0 + 1), .ref (h0 + 2), .int 0, .int 0])) H := at0
  replace hz : H.size = h0 + 3 := hz_12.trans hz
  replace at_1 := va_at.keptP (b := h0) (j := 0) 1 at_1 o_11 rfl
  replace at_5 := va_at.keptP (b := h0) (j := 0) 2 at_5 o_11 rfl
  clear o_11 hz_12
  have sg_13 : tS D (fF cI cL cC 0 gR) [10] (h0 + 1) H := tS.one at_1 (fun t => ⟨_, rfl⟩)
  have sg_14 : tS D (fF cI cL cC 0 gR) [11] (h0 + 2) H := tS.one at_5 (fun t => ⟨_, rfl⟩)
  have sj_15 : tS D (fF cI cL cC 0 gR) [10, 11] (h0 + 1) H := tS.app3 1 sg_13 sg_14 rfl rfl
  have hT : tS D (fF cI cL cC 0 gR) [10, 11] (h0 + 1) H := sj_15
  have hT : tS D (fF cI cL cC 0 gR) [2, 10, 11] h0 H := tS.cons at0 hT (fun t h1 ht => ⟨h0 + 1, h0 + 2, 0, rfl, (ht 0 (by decide)), (ht 1 (by decide))⟩)
  exact W.vret hx hb hr (fun u hu _ => ⟨rfl, by rw [hu]; exact hT, by rw [hu, hz]; rfl, by rw [hu]; exact hS.2.1⟩) hS.2.2 dX7_init_31 hlk

set_option maxHeartbeats 4000000 in
set_option maxRecDepth 100000 in
theorem cc_X4 (l : Launch) (D : va_G) (cI cL cC : ClassId) (gR : Int32) (h0 : Nat) : Met l yX4_init wsX4_init ({ frames := 1, cells := 3, slots := 260, locals := 12 }) (cP D cI cL cC 3 [.null, .null, .null, .int 0, .int 0, .int 0] h0) (cQ D (fF cI cL cC 0 gR) [3, 12, 13, 14] h0) 3 260 (fun q => h0 ≤ q) := by
  refine cM_ofW (cc := cX4_init) (maxL := 1) (by decide) rfl rfl (by decide) ?_
  intro p e s m below meth c hx hb hr hml hown hts hlk hin hz at0 hK hE hS ls hl
  have hl : lv_has ls 1 [(0, .ref h0)] := hl
  have in4 : ∀ w ∈ wsX40, w ∈ wsX4_init := fun w h => List.mem_cons_of_mem _ (List.mem_append_right _ h)
  refine lv_aload_n hx hb dX4_init_0 rfl (lv_at hl 0 rfl) ?_
  refine W.objInit hx hb hown (hts (.methodLink RX4 3 objectInit) (List.mem_of_getElem? (i := 1) rfl)) (hts (.instanceMethod objectInit) (List.mem_of_getElem? (i := 2) rfl)) (hts (.code objectInit ⟨#[0xb1]⟩ 1 none) (List.mem_of_getElem? (i := 3) rfl)) rfl (by rw [hml]; exact hl.1) rfl dX4_init_1 (Nat.le_of_ble_eq_true rfl) (Nat.le_of_ble_eq_true rfl) ?_
  refine W.eq (g2 := F0 m 4 ls []) rfl ?_
  refine lv_aload_n hx hb dX4_init_4 rfl (lv_at hl 0 rfl) ?_
  refine lv_sipush (v := 240) hx hb dX4_init_5 (by decide) ?_
  refine nw_newI (N := 240) (z := h0 + 1) hx hb (hts (.arrayClass .int) (List.mem_of_getElem? (i := 4) rfl)) hK hS hz (Nat.le_add_right _ _) (by decide) (by decide) (by decide) (Nat.le_of_ble_eq_true rfl) (Nat.le_of_ble_eq_true rfl) dX4_init_8 (fun H at_1 hz o_2 hS => ?_)
  replace at0 := va_at.keptA (b := h0) (z := 1) 0 at0 o_2 (Nat.le_of_ble_eq_true rfl)
  clear o_2
  have hz : H.size = h0 + 2 := hz
  refine nw_putF (D := D) (ci := 3) (v := .ref (h0 + 1)) (ty := .array .int) (C := RX4) (T := TX4) (N := 6) hx hb hts in4 tyX4 tyX4_ok nmX4 hown hK hS (Nat.le_refl _) at0 rfl 0 (by decide) (hts (.fieldLink RX4 9 "RiverModel$Model" "cells" "[I") (List.mem_of_getElem? (i := 5) rfl)) (fun _ h9 => h9) rfl hin rfl (by decide +kernel) rfl rfl (Nat.le_of_ble_eq_true rfl) dX4_init_10 (fun H locs at0 hz_4 o_3 hS => ?_)
  have at0 : va_at D vwCl (h0, .inr (3, [.ref (h0 + 1), .null, .null, .int 0, .int 0, .int 0])) H := at0
  replace hz : H.size = h0 + 2 := hz_4.trans hz
  replace at_1 := va_at.keptP (b := h0) (j := 0) 1 at_1 o_3 rfl
  clear o_3 hz_4
  refine lv_aload_n hx hb dX4_init_13 rfl (lv_at hl 0 rfl) ?_
  refine lv_pc (pc2 := 14) rfl ?_
  refine lv_bipush (v := 16) hx hb dX4_init_14 (by decide) ?_
  refine nw_newI (N := 16) (z := h0 + 2) hx hb (hts (.arrayClass .int) (List.mem_of_getElem? (i := 4) rfl)) hK hS hz (Nat.le_add_right _ _) (by decide) (by decide) (by decide) (Nat.le_of_ble_eq_true rfl) (Nat.le_of_ble_eq_true rfl) dX4_init_16 (fun H at_5 hz o_6 hS => ?_)
  replace at0 := va_at.keptA (b := h0) (z := 2) 0 at0 o_6 (Nat.le_of_ble_eq_true rfl)
  replace at_1 := va_at.keptA (b := h0) (z := 2) 1 at_1 o_6 (Nat.le_of_ble_eq_true rfl)
  clear o_6
  have hz : H.size = h0 + 3 := hz
  refine nw_putF (D := D) (ci := 3) (v := .ref (h0 + 2)) (ty := .array .int) (C := RX4) (T := TX4) (N := 6) hx hb hts in4 tyX4 tyX4_ok nmX4 hown hK hS (Nat.le_refl _) at0 rfl 1 (by decide) (hts (.fieldLink RX4 15 "RiverModel$Model" "storeItems" "[I") (List.mem_of_getElem? (i := 6) rfl)) (fun _ h9 => h9) rfl hin rfl (by decide +kernel) rfl rfl (Nat.le_of_ble_eq_true rfl) dX4_init_18 (fun H locs at0 hz_8 o_7 hS => ?_)
  have at0 : va_at D vwCl (h0, .inr (3, [.ref (h0 + 1), .ref (h0 + 2), .null, .int 0, .int 0, .int 0])) H := at0
  replace hz : H.size = h0 + 3 := hz_8.trans hz
  replace at_1 := va_at.keptP (b := h0) (j := 0) 1 at_1 o_7 rfl
  replace at_5 := va_at.keptP (b := h0) (j := 0) 2 at_5 o_7 rfl
  clear o_7 hz_8
  refine lv_aload_n hx hb dX4_init_21 rfl (lv_at hl 0 rfl) ?_
  refine lv_iconst (v := 4) hx hb dX4_init_22 (by decide) ?_
  refine nw_newI (N := 4) (z := h0 + 3) hx hb (hts (.arrayClass .int) (List.mem_of_getElem? (i := 4) rfl)) hK hS hz (Nat.le_add_right _ _) (by decide) (by decide) (by decide) (Nat.le_of_ble_eq_true rfl) (Nat.le_of_ble_eq_true rfl) dX4_init_23 (fun H at_9 hz o_10 hS => ?_)
  replace at0 := va_at.keptA (b := h0) (z := 3) 0 at0 o_10 (Nat.le_of_ble_eq_true rfl)
  replace at_1 := va_at.keptA (b := h0) (z := 3) 1 at_1 o_10 (Nat.le_of_ble_eq_true rfl)
  replace at_5 := va_at.keptA (b := h0) (z := 3) 2 at_5 o_10 (Nat.le_of_ble_eq_true rfl)
  clear o_10
  have hz : H.size = h0 + 4 := hz
  refine nw_putF (D := D) (ci := 3) (v := .ref (h0 + 3)) (ty := .array .int) (C := RX4) (T := TX4) (N := 6) hx hb hts in4 tyX4 tyX4_ok nmX4 hown hK hS (Nat.le_refl _) at0 rfl 2 (by decide) (hts (.fieldLink RX4 18 "RiverModel$Model" "gateItems" "[I") (List.mem_of_getElem? (i := 7) rfl)) (fun _ h9 => h9) rfl hin rfl (by decide +kernel) rfl rfl (Nat.le_of_ble_eq_true rfl) dX4_init_25 (fun H locs at0 hz_12 o_11 hS => ?_)
  have at0 : va_at D vwCl (h0, .inr (3, [.ref (h0 + 1), .ref (h0 + 2), .ref (h0 + 3), .int 0, .int 0, .int 0])) H := at0
  replace hz : H.size = h0 + 4 := hz_12.trans hz
  replace at_1 := va_at.keptP (b := h0) (j := 0) 1 at_1 o_11 rfl
  replace at_5 := va_at.keptP (b := h0) (j := 0) 2 at_5 o_11 rfl
  replace at_9 := va_at.keptP (b := h0) (j := 0) 3 at_9 o_11 rfl
  clear o_11 hz_12
  refine lv_aload_n hx hb dX4_init_28 rfl (lv_at hl 0 rfl) ?_
  refine lv_pc (pc2 := 29) rfl ?_
  refine lv_iconst (v := 0) hx hb dX4_init_29 (by decide) ?_
  refine nw_put (D := D) (ci := 3) (v := .int 0) (ty := .int) (C := RX4) (T := TX4) (N := 6) hx hb hts in4 tyX4 tyX4_ok nmX4 hown hK hS (Nat.le_refl _) at0 rfl 3 (by decide) (hts (.fieldLink RX4 21 "RiverModel$Model" "many" "I") (List.mem_of_getElem? (i := 8) rfl)) (fun _ h9 => h9) rfl (by decide +kernel) rfl rfl (Nat.le_of_ble_eq_true rfl) dX4_init_30 (fun H locs at0 hz_14 o_13 hS => ?_)
  have at0 : va_at D vwCl (h0, .inr (3, [.ref (h0 + 1), .ref (h0 + 2), .ref (h0 + 3), .int 0, .int 0, .int 0])) H := at0
  replace hz : H.size = h0 + 4 := hz_14.trans hz
  replace at_1 := va_at.keptP (b := h0) (j := 0) 1 at_1 o_13 rfl
  replace at_5 := va_at.keptP (b := h0) (j := 0) 2 at_5 o_13 rfl
  replace at_9 := va_at.keptP (b := h0) (j := 0) 3 at_9 o_13 rfl
  clear o_13 hz_14
  refine lv_aload_n hx hb dX4_init_33 rfl (lv_at hl 0 rfl) ?_
  refine lv_iconst (v := 0) hx hb dX4_init_34 (by decide) ?_
  refine nw_put (D := D) (ci := 3) (v := .int 0) (ty := .int) (C := RX4) (T := TX4) (N := 6) hx hb hts in4 tyX4 tyX4_ok nmX4 hown hK hS (Nat.le_refl _) at0 rfl 4 (by decide) (hts (.fieldLink RX4 25 "RiverModel$Model" "stores" "I") (List.mem_of_getElem? (i := 9) rfl)) (fun _ h9 => h9) rfl (by decide +kernel) rfl rfl (Nat.le_of_ble_eq_true rfl) dX4_init_35 (fun H locs at0 hz_16 o_15 hS => ?_)
  have at0 : va_at D vwCl (h0, .inr (3, [.ref (h0 + 1), .ref (h0 + 2), .ref (h0 + 3), .int 0, .int 0, .int 0])) H := at0
  replace hz : H.size = h0 + 4 := hz_16.trans hz
  replace at_1 := va_at.keptP (b := h0) (j := 0) 1 at_1 o_15 rfl
  replace at_5 := va_at.keptP (b := h0) (j := 0) 2 at_5 o_15 rfl
  replace at_9 := va_at.keptP (b := h0) (j := 0) 3 at_9 o_15 rfl
  clear o_15 hz_16
  refine lv_aload_n hx hb dX4_init_38 rfl (lv_at hl 0 rfl) ?_
  refine lv_iconst (v := 0) hx hb dX4_init_39 (by decide) ?_
  refine nw_put (D := D) (ci := 3) (v := .int 0) (ty := .int) (C := RX4) (T := TX4) (N := 6) hx hb hts in4 tyX4 tyX4_ok nmX4 hown hK hS (Nat.le_refl _) at0 rfl 5 (by decide) (hts (.fieldLink RX4 28 "RiverModel$Model" "gates" "I") (List.mem_of_getElem? (i := 10) rfl)) (fun _ h9 => h9) rfl (by decide +kernel) rfl rfl (Nat.le_of_ble_eq_true rfl) dX4_init_40 (fun H locs at0 hz_18 o_17 hS => ?_)
  have at0 : va_at D vwCl (h0, .inr (3, [.ref (h0 + 1), .ref (h0 + 2), .ref (h0 + 3), .int 0, .int 0, .int 0])) H := at0
  replace hz : H.size = h0 + 4 := hz_18.trans hz
  replace at_1 := va_at.keptP (b := h0) (j := 0) 1 at_1 o_17 rfl
  replace at_5 := va_at.keptP (b := h0) (j := 0) 2 at_5 o_17 rfl
  replace at_9 := va_at.keptP (b := h0) (j := 0) 3 at_9 o_17 rfl
  clear o_17 hz_18
  refine lv_pc (pc2 := 43) rfl ?_
  have sg_19 : tS D (fF cI cL cC 0 gR) [12] (h0 + 1) H := tS.one at_1 (fun t => ⟨_, rfl⟩)
  have sg_20 : tS D (fF cI cL cC 0 gR) [13] (h0 + 2) H := tS.one at_5 (fun t => ⟨_, rfl⟩)
  have sg_21 : tS D (fF cI cL cC 0 gR) [14] (h0 + 3) H := tS.one at_9 (fun t => ⟨_, rfl⟩)
  have sj_22 : tS D (fF cI cL cC 0 gR) [13, 14] (h0 + 2) H := tS.app3 1 sg_20 sg_21 rfl rfl
  have sj_23 : tS D (fF cI cL cC 0 gR) [12, 13, 14] (h0 + 1) H := tS.app3 1 sg_19 sj_22 rfl rfl
  have hT : tS D (fF cI cL cC 0 gR) [12, 13, 14] (h0 + 1) H := sj_23
  have hT : tS D (fF cI cL cC 0 gR) [3, 12, 13, 14] h0 H := tS.cons at0 hT (fun t h1 ht => ⟨h0 + 1, h0 + 2, h0 + 3, rfl, (ht 0 (by decide)), (ht 1 (by decide)), (ht 2 (by decide))⟩)
  exact W.vret hx hb hr (fun u hu _ => ⟨rfl, by rw [hu]; exact hT, by rw [hu, hz]; rfl, by rw [hu]; exact hS.2.1⟩) hS.2.2 dX4_init_43 hlk

set_option maxHeartbeats 4000000 in
set_option maxRecDepth 100000 in
theorem cc_X6 (l : Launch) (D : va_G) (cI cL cC : ClassId) (gR : Int32) (h0 : Nat) : Met l yX6_init wsX6_init ({ frames := 1, cells := 2, slots := 192, locals := 23 }) (cP D cI cL cC 5 [.null, .null] h0) (cQ D (fF cI cL cC 0 gR) [4, 15, 16] h0) 2 192 (fun q => h0 ≤ q) := by
  refine cM_ofW (cc := cX6_init) (maxL := 1) (by decide) rfl rfl (by decide) ?_
  intro p e s m below meth c hx hb hr hml hown hts hlk hin hz at0 hK hE hS ls hl
  have hl : lv_has ls 1 [(0, .ref h0)] := hl
  have in6 : ∀ w ∈ wsX60, w ∈ wsX6_init := fun w h => List.mem_cons_of_mem _ (List.mem_append_right _ h)
  refine lv_aload_n hx hb dX6_init_0 rfl (lv_at hl 0 rfl) ?_
  refine W.objInit hx hb hown (hts (.methodLink RX6 3 objectInit) (List.mem_of_getElem? (i := 1) rfl)) (hts (.instanceMethod objectInit) (List.mem_of_getElem? (i := 2) rfl)) (hts (.code objectInit ⟨#[0xb1]⟩ 1 none) (List.mem_of_getElem? (i := 3) rfl)) rfl (by rw [hml]; exact hl.1) rfl dX6_init_1 (Nat.le_of_ble_eq_true rfl) (Nat.le_of_ble_eq_true rfl) ?_
  refine W.eq (g2 := F0 m 4 ls []) rfl ?_
  refine lv_aload_n hx hb dX6_init_4 rfl (lv_at hl 0 rfl) ?_
  refine lv_bipush (v := 96) hx hb dX6_init_5 (by decide) ?_
  refine nw_newI (N := 96) (z := h0 + 1) hx hb (hts (.arrayClass .int) (List.mem_of_getElem? (i := 4) rfl)) hK hS hz (Nat.le_add_right _ _) (by decide) (by decide) (by decide) (Nat.le_of_ble_eq_true rfl) (Nat.le_of_ble_eq_true rfl) dX6_init_7 (fun H at_1 hz o_2 hS => ?_)
  replace at0 := va_at.keptA (b := h0) (z := 1) 0 at0 o_2 (Nat.le_of_ble_eq_true rfl)
  clear o_2
  have hz : H.size = h0 + 2 := hz
  refine nw_putF (D := D) (ci := 5) (v := .ref (h0 + 1)) (ty := .array .int) (C := RX6) (T := TX6) (N := 2) hx hb hts in6 tyX6 tyX6_ok nmX6 hown hK hS (Nat.le_refl _) at0 rfl 0 (by decide) (hts (.fieldLink RX6 9 "RiverModel$Sky" "rains" "[I") (List.mem_of_getElem? (i := 5) rfl)) (fun _ h9 => h9) rfl hin rfl (by decide +kernel) rfl rfl (Nat.le_of_ble_eq_true rfl) dX6_init_9 (fun H locs at0 hz_4 o_3 hS => ?_)
  have at0 : va_at D vwCl (h0, .inr (5, [.ref (h0 + 1), .null])) H := at0
  replace hz : H.size = h0 + 2 := hz_4.trans hz
  replace at_1 := va_at.keptP (b := h0) (j := 0) 1 at_1 o_3 rfl
  clear o_3 hz_4
  refine lv_aload_n hx hb dX6_init_12 rfl (lv_at hl 0 rfl) ?_
  refine lv_pc (pc2 := 13) rfl ?_
  refine lv_bipush (v := 96) hx hb dX6_init_13 (by decide) ?_
  refine nw_newI (N := 96) (z := h0 + 2) hx hb (hts (.arrayClass .int) (List.mem_of_getElem? (i := 4) rfl)) hK hS hz (Nat.le_add_right _ _) (by decide) (by decide) (by decide) (Nat.le_of_ble_eq_true rfl) (Nat.le_of_ble_eq_true rfl) dX6_init_15 (fun H at_5 hz o_6 hS => ?_)
  replace at0 := va_at.keptA (b := h0) (z := 2) 0 at0 o_6 (Nat.le_of_ble_eq_true rfl)
  replace at_1 := va_at.keptA (b := h0) (z := 2) 1 at_1 o_6 (Nat.le_of_ble_eq_true rfl)
  clear o_6
  have hz : H.size = h0 + 3 := hz
  refine nw_putF (D := D) (ci := 5) (v := .ref (h0 + 2)) (ty := .array .int) (C := RX6) (T := TX6) (N := 2) hx hb hts in6 tyX6 tyX6_ok nmX6 hown hK hS (Nat.le_refl _) at0 rfl 1 (by decide) (hts (.fieldLink RX6 15 "RiverModel$Sky" "temps" "[I") (List.mem_of_getElem? (i := 6) rfl)) (fun _ h9 => h9) rfl hin rfl (by decide +kernel) rfl rfl (Nat.le_of_ble_eq_true rfl) dX6_init_17 (fun H locs at0 hz_8 o_7 hS => ?_)
  have at0 : va_at D vwCl (h0, .inr (5, [.ref (h0 + 1), .ref (h0 + 2)])) H := at0
  replace hz : H.size = h0 + 3 := hz_8.trans hz
  replace at_1 := va_at.keptP (b := h0) (j := 0) 1 at_1 o_7 rfl
  replace at_5 := va_at.keptP (b := h0) (j := 0) 2 at_5 o_7 rfl
  clear o_7 hz_8
  refine lv_aload_n hx hb dX6_init_20 rfl (lv_at hl 0 rfl) ?_
  refine va_get (D := D) (ci := 5) (v := .ref (h0 + 2)) (C := RX6) (T := TX6) (N := 2) hx hb hts in6 hown hK (va_one at0) 0 rfl rfl 1 (by decide) (hts (.fieldLink RX6 15 "RiverModel$Sky" "temps" "[I") (List.mem_of_getElem? (i := 6) rfl)) (fun _ h9 => h9) rfl dX6_init_21 ?_
  refine lv_bipush (v := 10) hx hb dX6_init_24 (by decide) ?_
  refine nw_row (W.runS (As := [.ref (h0 + 2), .int 10]) (rest := []) ⟨hx, hb, hml, hown, hts⟩ (c_fillI l D cI cL cC (h0 + 2) 96 (fun _ => 0) 10 (by decide)) (va_cwS 2 hts gX6_init_J7_fill_53178 rfl rfl rfl (by decide +kernel) ⟨Nat.le_of_ble_eq_true rfl, Nat.le_of_ble_eq_true rfl⟩) (rP_S at_5 hE) rfl rfl hl.1 rfl (lv_room (Nat.le_of_ble_eq_true rfl)) dX6_init_26 ⟨Nat.le_of_ble_eq_true rfl, Nat.le_of_ble_eq_true rfl⟩) (fun H L ee hp at_5 hz_12 o_10 hL_13 => ?_)
  obtain ⟨g_9, rfl, hg_11⟩ := hp
  replace hS := cF.row hS hz_12 o_10 hL_13 (Nat.le_add_right _ _)
  replace hz : H.size = h0 + 3 := hz_12.trans hz
  generalize _ ++ L = locs at hS ⊢
  replace at0 := va_at.keptP (b := h0) (j := 2) 0 at0 o_10 rfl
  replace at_1 := va_at.keptP (b := h0) (j := 2) 1 at_1 o_10 rfl
  clear o_10 hz_12 hL_13
  have sg_14 : tS D (fF cI cL cC 0 gR) [15] (h0 + 1) H := tS.one at_1 (fun t => ⟨_, rfl⟩)
  have sg_15 : tS D (fF cI cL cC 0 gR) [16] (h0 + 2) H := tS.one at_5 (fun t => ⟨_, rfl⟩)
  have sj_16 : tS D (fF cI cL cC 0 gR) [15, 16] (h0 + 1) H := tS.app3 1 sg_14 sg_15 rfl rfl
  have hT : tS D (fF cI cL cC 0 gR) [15, 16] (h0 + 1) H := sj_16
  have hT : tS D (fF cI cL cC 0 gR) [4, 15, 16] h0 H := tS.cons at0 hT (fun t h1 ht => ⟨h0 + 1, h0 + 2, rfl, (ht 0 (by decide)), (ht 1 (by decide))⟩)
  exact W.vret hx hb hr (fun u hu _ => ⟨rfl, by rw [hu]; exact hT, by rw [hu, hz]; rfl, by rw [hu]; exact hS.2.1⟩) hS.2.2 dX6_init_29 hlk

set_option maxHeartbeats 4000000 in
set_option maxRecDepth 100000 in
theorem cc_X0 (l : Launch) (D : va_G) (cI cL cC : ClassId) (gR : Int32) (h0 : Nat) : Met l yX0_init wsX0_init ({ frames := 1, cells := 4, slots := 268, locals := 12 }) (cP D cI cL cC 0 [.null, .null, .null, .null, .long 0, .long 0, .long 0, .int 0] h0) (cQ D (fF cI cL cC 0 gR) [5, 17, 18, 19, 20] h0) 4 268 (fun q => h0 ≤ q) := by
  refine cM_ofW (cc := cX0_init) (maxL := 1) (by decide) rfl rfl (by decide) ?_
  intro p e s m below meth c hx hb hr hml hown hts hlk hin hz at0 hK hE hS ls hl
  have hl : lv_has ls 1 [(0, .ref h0)] := hl
  have in0 : ∀ w ∈ wsX00, w ∈ wsX0_init := fun w h => List.mem_cons_of_mem _ (List.mem_append_right _ h)
  refine lv_aload_n hx hb dX0_init_0 rfl (lv_at hl 0 rfl) ?_
  refine W.objInit hx hb hown (hts (.methodLink RX0 3 objectInit) (List.mem_of_getElem? (i := 1) rfl)) (hts (.instanceMethod objectInit) (List.mem_of_getElem? (i := 2) rfl)) (hts (.code objectInit ⟨#[0xb1]⟩ 1 none) (List.mem_of_getElem? (i := 3) rfl)) rfl (by rw [hml]; exact hl.1) rfl dX0_init_1 (Nat.le_of_ble_eq_true rfl) (Nat.le_of_ble_eq_true rfl) ?_
  refine W.eq (g2 := F0 m 4 ls []) rfl ?_
  refine lv_aload_n hx hb dX0_init_4 rfl (lv_at hl 0 rfl) ?_
  refine lv_bipush (v := 16) hx hb dX0_init_5 (by decide) ?_
  refine nw_newL (N := 16) (z := h0 + 1) hx hb (hts (.arrayClass .long) (List.mem_of_getElem? (i := 4) rfl)) hK hS hz (Nat.le_add_right _ _) (by decide) (by decide) (by decide) (Nat.le_of_ble_eq_true rfl) (Nat.le_of_ble_eq_true rfl) dX0_init_7 (fun H at_1 hz o_2 hS => ?_)
  replace at0 := va_at.keptA (b := h0) (z := 1) 0 at0 o_2 (Nat.le_of_ble_eq_true rfl)
  clear o_2
  have hz : H.size = h0 + 2 := hz
  refine nw_putF (D := D) (ci := 0) (v := .ref (h0 + 1)) (ty := .array .long) (C := RX0) (T := TX0) (N := 8) hx hb hts in0 tyX0 tyX0_ok nmX0 hown hK hS (Nat.le_refl _) at0 rfl 0 (by decide) (hts (.fieldLink RX0 9 "RiverModel$Course" "held" "[J") (List.mem_of_getElem? (i := 5) rfl)) (fun _ h9 => h9) rfl hin rfl (by decide +kernel) rfl rfl (Nat.le_of_ble_eq_true rfl) dX0_init_9 (fun H locs at0 hz_4 o_3 hS => ?_)
  have at0 : va_at D vwCl (h0, .inr (0, [.ref (h0 + 1), .null, .null, .null, .long 0, .long 0, .long 0, .int 0])) H := at0
  replace hz : H.size = h0 + 2 := hz_4.trans hz
  replace at_1 := va_at.keptP (b := h0) (j := 0) 1 at_1 o_3 rfl
  clear o_3 hz_4
  refine lv_aload_n hx hb dX0_init_12 rfl (lv_at hl 0 rfl) ?_
  refine lv_pc (pc2 := 13) rfl ?_
  refine lv_bipush (v := 40) hx hb dX0_init_13 (by decide) ?_
  refine nw_newL (N := 40) (z := h0 + 2) hx hb (hts (.arrayClass .long) (List.mem_of_getElem? (i := 4) rfl)) hK hS hz (Nat.le_add_right _ _) (by decide) (by decide) (by decide) (Nat.le_of_ble_eq_true rfl) (Nat.le_of_ble_eq_true rfl) dX0_init_15 (fun H at_5 hz o_6 hS => ?_)
  replace at0 := va_at.keptA (b := h0) (z := 2) 0 at0 o_6 (Nat.le_of_ble_eq_true rfl)
  replace at_1 := va_at.keptA (b := h0) (z := 2) 1 at_1 o_6 (Nat.le_of_ble_eq_true rfl)
  clear o_6
  have hz : H.size = h0 + 3 := hz
  refine nw_putF (D := D) (ci := 0) (v := .ref (h0 + 2)) (ty := .array .long) (C := RX0) (T := TX0) (N := 8) hx hb hts in0 tyX0 tyX0_ok nmX0 hown hK hS (Nat.le_refl _) at0 rfl 1 (by decide) (hts (.fieldLink RX0 15 "RiverModel$Course" "moved" "[J") (List.mem_of_getElem? (i := 6) rfl)) (fun _ h9 => h9) rfl hin rfl (by decide +kernel) rfl rfl (Nat.le_of_ble_eq_true rfl) dX0_init_17 (fun H locs at0 hz_8 o_7 hS => ?_)
  have at0 : va_at D vwCl (h0, .inr (0, [.ref (h0 + 1), .ref (h0 + 2), .null, .null, .long 0, .long 0, .long 0, .int 0])) H := at0
  replace hz : H.size = h0 + 3 := hz_8.trans hz
  replace at_1 := va_at.keptP (b := h0) (j := 0) 1 at_1 o_7 rfl
  replace at_5 := va_at.keptP (b := h0) (j := 0) 2 at_5 o_7 rfl
  clear o_7 hz_8
  refine lv_aload_n hx hb dX0_init_20 rfl (lv_at hl 0 rfl) ?_
  refine lv_iconst (v := 4) hx hb dX0_init_21 (by decide) ?_
  refine nw_newI (N := 4) (z := h0 + 3) hx hb (hts (.arrayClass .int) (List.mem_of_getElem? (i := 7) rfl)) hK hS hz (Nat.le_add_right _ _) (by decide) (by decide) (by decide) (Nat.le_of_ble_eq_true rfl) (Nat.le_of_ble_eq_true rfl) dX0_init_22 (fun H at_9 hz o_10 hS => ?_)
  replace at0 := va_at.keptA (b := h0) (z := 3) 0 at0 o_10 (Nat.le_of_ble_eq_true rfl)
  replace at_1 := va_at.keptA (b := h0) (z := 3) 1 at_1 o_10 (Nat.le_of_ble_eq_true rfl)
  replace at_5 := va_at.keptA (b := h0) (z := 3) 2 at_5 o_10 (Nat.le_of_ble_eq_true rfl)
  clear o_10
  have hz : H.size = h0 + 4 := hz
  refine nw_putF (D := D) (ci := 0) (v := .ref (h0 + 3)) (ty := .array .int) (C := RX0) (T := TX0) (N := 8) hx hb hts in0 tyX0 tyX0_ok nmX0 hown hK hS (Nat.le_refl _) at0 rfl 2 (by decide) (hts (.fieldLink RX0 18 "RiverModel$Course" "openings" "[I") (List.mem_of_getElem? (i := 8) rfl)) (fun _ h9 => h9) rfl hin rfl (by decide +kernel) rfl rfl (Nat.le_of_ble_eq_true rfl) dX0_init_24 (fun H locs at0 hz_12 o_11 hS => ?_)
  have at0 : va_at D vwCl (h0, .inr (0, [.ref (h0 + 1), .ref (h0 + 2), .ref (h0 + 3), .null, .long 0, .long 0, .long 0, .int 0])) H := at0
  replace hz : H.size = h0 + 4 := hz_12.trans hz
  replace at_1 := va_at.keptP (b := h0) (j := 0) 1 at_1 o_11 rfl
  replace at_5 := va_at.keptP (b := h0) (j := 0) 2 at_5 o_11 rfl
  replace at_9 := va_at.keptP (b := h0) (j := 0) 3 at_9 o_11 rfl
  clear o_11 hz_12
  refine lv_aload_n hx hb dX0_init_27 rfl (lv_at hl 0 rfl) ?_
  refine lv_pc (pc2 := 28) rfl ?_
  refine lv_sipush (v := 208) hx hb dX0_init_28 (by decide) ?_
  refine nw_newL (N := 208) (z := h0 + 4) hx hb (hts (.arrayClass .long) (List.mem_of_getElem? (i := 4) rfl)) hK hS hz (Nat.le_add_right _ _) (by decide) (by decide) (by decide) (Nat.le_of_ble_eq_true rfl) (Nat.le_of_ble_eq_true rfl) dX0_init_31 (fun H at_13 hz o_14 hS => ?_)
  replace at0 := va_at.keptA (b := h0) (z := 4) 0 at0 o_14 (Nat.le_of_ble_eq_true rfl)
  replace at_1 := va_at.keptA (b := h0) (z := 4) 1 at_1 o_14 (Nat.le_of_ble_eq_true rfl)
  replace at_5 := va_at.keptA (b := h0) (z := 4) 2 at_5 o_14 (Nat.le_of_ble_eq_true rfl)
  replace at_9 := va_at.keptA (b := h0) (z := 4) 3 at_9 o_14 (Nat.le_of_ble_eq_true rfl)
  clear o_14
  have hz : H.size = h0 + 5 := hz
  refine nw_putF (D := D) (ci := 0) (v := .ref (h0 + 4)) (ty := .array .long) (C := RX0) (T := TX0) (N := 8) hx hb hts in0 tyX0 tyX0_ok nmX0 hown hK hS (Nat.le_refl _) at0 rfl 3 (by decide) (hts (.fieldLink RX0 22 "RiverModel$Course" "due" "[J") (List.mem_of_getElem? (i := 9) rfl)) (fun _ h9 => h9) rfl hin rfl (by decide +kernel) rfl rfl (Nat.le_of_ble_eq_true rfl) dX0_init_33 (fun H locs at0 hz_16 o_15 hS => ?_)
  have at0 : va_at D vwCl (h0, .inr (0, [.ref (h0 + 1), .ref (h0 + 2), .ref (h0 + 3), .ref (h0 + 4), .long 0, .long 0, .long 0, .int 0])) H := at0
  replace hz : H.size = h0 + 5 := hz_16.trans hz
  replace at_1 := va_at.keptP (b := h0) (j := 0) 1 at_1 o_15 rfl
  replace at_5 := va_at.keptP (b := h0) (j := 0) 2 at_5 o_15 rfl
  replace at_9 := va_at.keptP (b := h0) (j := 0) 3 at_9 o_15 rfl
  replace at_13 := va_at.keptP (b := h0) (j := 0) 4 at_13 o_15 rfl
  clear o_15 hz_16
  refine lv_aload_n hx hb dX0_init_36 rfl (lv_at hl 0 rfl) ?_
  refine lv_lconst (v := 0) hx hb dX0_init_37 (by decide) ?_
  refine nw_put (D := D) (ci := 0) (v := .long 0) (ty := .long) (C := RX0) (T := TX0) (N := 8) hx hb hts in0 tyX0 tyX0_ok nmX0 hown hK hS (Nat.le_refl _) at0 rfl 4 (by decide) (hts (.fieldLink RX0 25 "RiverModel$Course" "rained" "J") (List.mem_of_getElem? (i := 10) rfl)) (fun _ h9 => h9) rfl (by decide +kernel) rfl rfl (Nat.le_of_ble_eq_true rfl) dX0_init_38 (fun H locs at0 hz_18 o_17 hS => ?_)
  have at0 : va_at D vwCl (h0, .inr (0, [.ref (h0 + 1), .ref (h0 + 2), .ref (h0 + 3), .ref (h0 + 4), .long 0, .long 0, .long 0, .int 0])) H := at0
  replace hz : H.size = h0 + 5 := hz_18.trans hz
  replace at_1 := va_at.keptP (b := h0) (j := 0) 1 at_1 o_17 rfl
  replace at_5 := va_at.keptP (b := h0) (j := 0) 2 at_5 o_17 rfl
  replace at_9 := va_at.keptP (b := h0) (j := 0) 3 at_9 o_17 rfl
  replace at_13 := va_at.keptP (b := h0) (j := 0) 4 at_13 o_17 rfl
  clear o_17 hz_18
  refine lv_aload_n hx hb dX0_init_41 rfl (lv_at hl 0 rfl) ?_
  refine lv_lconst (v := 0) hx hb dX0_init_42 (by decide) ?_
  refine lv_pc (pc2 := 43) rfl ?_
  refine nw_put (D := D) (ci := 0) (v := .long 0) (ty := .long) (C := RX0) (T := TX0) (N := 8) hx hb hts in0 tyX0 tyX0_ok nmX0 hown hK hS (Nat.le_refl _) at0 rfl 5 (by decide) (hts (.fieldLink RX0 29 "RiverModel$Course" "air" "J") (List.mem_of_getElem? (i := 11) rfl)) (fun _ h9 => h9) rfl (by decide +kernel) rfl rfl (Nat.le_of_ble_eq_true rfl) dX0_init_43 (fun H locs at0 hz_20 o_19 hS => ?_)
  have at0 : va_at D vwCl (h0, .inr (0, [.ref (h0 + 1), .ref (h0 + 2), .ref (h0 + 3), .ref (h0 + 4), .long 0, .long 0, .long 0, .int 0])) H := at0
  replace hz : H.size = h0 + 5 := hz_20.trans hz
  replace at_1 := va_at.keptP (b := h0) (j := 0) 1 at_1 o_19 rfl
  replace at_5 := va_at.keptP (b := h0) (j := 0) 2 at_5 o_19 rfl
  replace at_9 := va_at.keptP (b := h0) (j := 0) 3 at_9 o_19 rfl
  replace at_13 := va_at.keptP (b := h0) (j := 0) 4 at_13 o_19 rfl
  clear o_19 hz_20
  refine lv_aload_n hx hb dX0_init_46 rfl (lv_at hl 0 rfl) ?_
  refine lv_lconst (v := 0) hx hb dX0_init_47 (by decide) ?_
  refine nw_put (D := D) (ci := 0) (v := .long 0) (ty := .long) (C := RX0) (T := TX0) (N := 8) hx hb hts in0 tyX0 tyX0_ok nmX0 hown hK hS (Nat.le_refl _) at0 rfl 6 (by decide) (hts (.fieldLink RX0 32 "RiverModel$Course" "sea" "J") (List.mem_of_getElem? (i := 12) rfl)) (fun _ h9 => h9) rfl (by decide +kernel) rfl rfl (Nat.le_of_ble_eq_true rfl) dX0_init_48 (fun H locs at0 hz_22 o_21 hS => ?_)
  have at0 : va_at D vwCl (h0, .inr (0, [.ref (h0 + 1), .ref (h0 + 2), .ref (h0 + 3), .ref (h0 + 4), .long 0, .long 0, .long 0, .int 0])) H := at0
  replace hz : H.size = h0 + 5 := hz_22.trans hz
  replace at_1 := va_at.keptP (b := h0) (j := 0) 1 at_1 o_21 rfl
  replace at_5 := va_at.keptP (b := h0) (j := 0) 2 at_5 o_21 rfl
  replace at_9 := va_at.keptP (b := h0) (j := 0) 3 at_9 o_21 rfl
  replace at_13 := va_at.keptP (b := h0) (j := 0) 4 at_13 o_21 rfl
  clear o_21 hz_22
  refine lv_aload_n hx hb dX0_init_51 rfl (lv_at hl 0 rfl) ?_
  refine lv_iconst (v := 0) hx hb dX0_init_52 (by decide) ?_
  refine nw_put (D := D) (ci := 0) (v := .int 0) (ty := .int) (C := RX0) (T := TX0) (N := 8) hx hb hts in0 tyX0 tyX0_ok nmX0 hown hK hS (Nat.le_refl _) at0 rfl 7 (by decide) (hts (.fieldLink RX0 35 "RiverModel$Course" "hours" "I") (List.mem_of_getElem? (i := 13) rfl)) (fun _ h9 => h9) rfl (by decide +kernel) rfl rfl (Nat.le_of_ble_eq_true rfl) dX0_init_53 (fun H locs at0 hz_24 o_23 hS => ?_)
  have at0 : va_at D vwCl (h0, .inr (0, [.ref (h0 + 1), .ref (h0 + 2), .ref (h0 + 3), .ref (h0 + 4), .long 0, .long 0, .long 0, .int 0])) H := at0
  replace hz : H.size = h0 + 5 := hz_24.trans hz
  replace at_1 := va_at.keptP (b := h0) (j := 0) 1 at_1 o_23 rfl
  replace at_5 := va_at.keptP (b := h0) (j := 0) 2 at_5 o_23 rfl
  replace at_9 := va_at.keptP (b := h0) (j := 0) 3 at_9 o_23 rfl
  replace at_13 := va_at.keptP (b := h0) (j := 0) 4 at_13 o_23 rfl
  clear o_23 hz_24
  have sg_25 : tS D (fF cI cL cC 0 gR) [17] (h0 + 1) H := tS.one at_1 (fun t => ⟨_, rfl⟩)
  have sg_26 : tS D (fF cI cL cC 0 gR) [18] (h0 + 2) H := tS.one at_5 (fun t => ⟨_, rfl⟩)
  have sg_27 : tS D (fF cI cL cC 0 gR) [19] (h0 + 3) H := tS.one at_9 (fun t => ⟨_, rfl⟩)
  have sg_28 : tS D (fF cI cL cC 0 gR) [20] (h0 + 4) H := tS.one at_13 (fun t => ⟨_, rfl⟩)
  have sj_29 : tS D (fF cI cL cC 0 gR) [19, 20] (h0 + 3) H := tS.app3 1 sg_27 sg_28 rfl rfl
  have sj_30 : tS D (fF cI cL cC 0 gR) [18, 19, 20] (h0 + 2) H := tS.app3 1 sg_26 sj_29 rfl rfl
  have sj_31 : tS D (fF cI cL cC 0 gR) [17, 18, 19, 20] (h0 + 1) H := tS.app3 1 sg_25 sj_30 rfl rfl
  have hT : tS D (fF cI cL cC 0 gR) [17, 18, 19, 20] (h0 + 1) H := sj_31
  have hT : tS D (fF cI cL cC 0 gR) [5, 17, 18, 19, 20] h0 H := tS.cons at0 hT (fun t h1 ht => ⟨h0 + 1, h0 + 2, h0 + 3, h0 + 4, 0, 0, 0, rfl, (ht 0 (by decide)), (ht 1 (by decide)), (ht 2 (by decide)), (ht 3 (by decide))⟩)
  exact W.vret hx hb hr (fun u hu _ => ⟨rfl, by rw [hu]; exact hT, by rw [hu, hz]; rfl, by rw [hu]; exact hS.2.1⟩) hS.2.2 dX0_init_56 hlk

set_option maxHeartbeats 4000000 in
set_option maxRecDepth 100000 in
theorem cc_X1 (l : Launch) (D : va_G) (cI cL cC : ClassId) (gR : Int32) (h0 : Nat) : Met l yX1_init wsX1_init ({ frames := 1, cells := 3, slots := 392, locals := 23 }) (cP D cI cL cC 1 [.null, .null, .null, .int 0] h0) (cQ D (fF cI cL cC 0 gR) [6, 21, 22, 23] h0) 3 392 (fun q => h0 ≤ q) := by
  refine cM_ofW (cc := cX1_init) (maxL := 1) (by decide) rfl rfl (by decide) ?_
  intro p e s m below meth c hx hb hr hml hown hts hlk hin hz at0 hK hE hS ls hl
  have hl : lv_has ls 1 [(0, .ref h0)] := hl
  have in1 : ∀ w ∈ wsX10, w ∈ wsX1_init := fun w h => List.mem_cons_of_mem _ (List.mem_append_right _ h)
  refine lv_aload_n hx hb dX1_init_0 rfl (lv_at hl 0 rfl) ?_
  refine W.objInit hx hb hown (hts (.methodLink RX1 3 objectInit) (List.mem_of_getElem? (i := 1) rfl)) (hts (.instanceMethod objectInit) (List.mem_of_getElem? (i := 2) rfl)) (hts (.code objectInit ⟨#[0xb1]⟩ 1 none) (List.mem_of_getElem? (i := 3) rfl)) rfl (by rw [hml]; exact hl.1) rfl dX1_init_1 (Nat.le_of_ble_eq_true rfl) (Nat.le_of_ble_eq_true rfl) ?_
  refine W.eq (g2 := F0 m 4 ls []) rfl ?_
  refine lv_aload_n hx hb dX1_init_4 rfl (lv_at hl 0 rfl) ?_
  refine lv_iconst (v := 4) hx hb dX1_init_5 (by decide) ?_
  refine nw_newI (N := 4) (z := h0 + 1) hx hb (hts (.arrayClass .int) (List.mem_of_getElem? (i := 4) rfl)) hK hS hz (Nat.le_add_right _ _) (by decide) (by decide) (by decide) (Nat.le_of_ble_eq_true rfl) (Nat.le_of_ble_eq_true rfl) dX1_init_6 (fun H at_1 hz o_2 hS => ?_)
  replace at0 := va_at.keptA (b := h0) (z := 1) 0 at0 o_2 (Nat.le_of_ble_eq_true rfl)
  clear o_2
  have hz : H.size = h0 + 2 := hz
  refine nw_putF (D := D) (ci := 1) (v := .ref (h0 + 1)) (ty := .array .int) (C := RX1) (T := TX1) (N := 4) hx hb hts in1 tyX1 tyX1_ok nmX1 hown hK hS (Nat.le_refl _) at0 rfl 0 (by decide) (hts (.fieldLink RX1 9 "RiverModel$Gauges" "whats" "[I") (List.mem_of_getElem? (i := 5) rfl)) (fun _ h9 => h9) rfl hin rfl (by decide +kernel) rfl rfl (Nat.le_of_ble_eq_true rfl) dX1_init_8 (fun H locs at0 hz_4 o_3 hS => ?_)
  have at0 : va_at D vwCl (h0, .inr (1, [.ref (h0 + 1), .null, .null, .int 0])) H := at0
  replace hz : H.size = h0 + 2 := hz_4.trans hz
  replace at_1 := va_at.keptP (b := h0) (j := 0) 1 at_1 o_3 rfl
  clear o_3 hz_4
  refine lv_aload_n hx hb dX1_init_11 rfl (lv_at hl 0 rfl) ?_
  refine lv_pc (pc2 := 12) rfl ?_
  refine lv_iconst (v := 4) hx hb dX1_init_12 (by decide) ?_
  refine nw_newI (N := 4) (z := h0 + 2) hx hb (hts (.arrayClass .int) (List.mem_of_getElem? (i := 4) rfl)) hK hS hz (Nat.le_add_right _ _) (by decide) (by decide) (by decide) (Nat.le_of_ble_eq_true rfl) (Nat.le_of_ble_eq_true rfl) dX1_init_13 (fun H at_5 hz o_6 hS => ?_)
  replace at0 := va_at.keptA (b := h0) (z := 2) 0 at0 o_6 (Nat.le_of_ble_eq_true rfl)
  replace at_1 := va_at.keptA (b := h0) (z := 2) 1 at_1 o_6 (Nat.le_of_ble_eq_true rfl)
  clear o_6
  have hz : H.size = h0 + 3 := hz
  refine nw_putF (D := D) (ci := 1) (v := .ref (h0 + 2)) (ty := .array .int) (C := RX1) (T := TX1) (N := 4) hx hb hts in1 tyX1 tyX1_ok nmX1 hown hK hS (Nat.le_refl _) at0 rfl 1 (by decide) (hts (.fieldLink RX1 15 "RiverModel$Gauges" "places" "[I") (List.mem_of_getElem? (i := 6) rfl)) (fun _ h9 => h9) rfl hin rfl (by decide +kernel) rfl rfl (Nat.le_of_ble_eq_true rfl) dX1_init_15 (fun H locs at0 hz_8 o_7 hS => ?_)
  have at0 : va_at D vwCl (h0, .inr (1, [.ref (h0 + 1), .ref (h0 + 2), .null, .int 0])) H := at0
  replace hz : H.size = h0 + 3 := hz_8.trans hz
  replace at_1 := va_at.keptP (b := h0) (j := 0) 1 at_1 o_7 rfl
  replace at_5 := va_at.keptP (b := h0) (j := 0) 2 at_5 o_7 rfl
  clear o_7 hz_8
  refine lv_aload_n hx hb dX1_init_18 rfl (lv_at hl 0 rfl) ?_
  refine lv_sipush (v := 384) hx hb dX1_init_19 (by decide) ?_
  refine nw_newI (N := 384) (z := h0 + 3) hx hb (hts (.arrayClass .int) (List.mem_of_getElem? (i := 4) rfl)) hK hS hz (Nat.le_add_right _ _) (by decide) (by decide) (by decide) (Nat.le_of_ble_eq_true rfl) (Nat.le_of_ble_eq_true rfl) dX1_init_22 (fun H at_9 hz o_10 hS => ?_)
  replace at0 := va_at.keptA (b := h0) (z := 3) 0 at0 o_10 (Nat.le_of_ble_eq_true rfl)
  replace at_1 := va_at.keptA (b := h0) (z := 3) 1 at_1 o_10 (Nat.le_of_ble_eq_true rfl)
  replace at_5 := va_at.keptA (b := h0) (z := 3) 2 at_5 o_10 (Nat.le_of_ble_eq_true rfl)
  clear o_10
  have hz : H.size = h0 + 4 := hz
  refine nw_putF (D := D) (ci := 1) (v := .ref (h0 + 3)) (ty := .array .int) (C := RX1) (T := TX1) (N := 4) hx hb hts in1 tyX1 tyX1_ok nmX1 hown hK hS (Nat.le_refl _) at0 rfl 2 (by decide) (hts (.fieldLink RX1 18 "RiverModel$Gauges" "seen" "[I") (List.mem_of_getElem? (i := 7) rfl)) (fun _ h9 => h9) rfl hin rfl (by decide +kernel) rfl rfl (Nat.le_of_ble_eq_true rfl) dX1_init_24 (fun H locs at0 hz_12 o_11 hS => ?_)
  have at0 : va_at D vwCl (h0, .inr (1, [.ref (h0 + 1), .ref (h0 + 2), .ref (h0 + 3), .int 0])) H := at0
  replace hz : H.size = h0 + 4 := hz_12.trans hz
  replace at_1 := va_at.keptP (b := h0) (j := 0) 1 at_1 o_11 rfl
  replace at_5 := va_at.keptP (b := h0) (j := 0) 2 at_5 o_11 rfl
  replace at_9 := va_at.keptP (b := h0) (j := 0) 3 at_9 o_11 rfl
  clear o_11 hz_12
  refine lv_aload_n hx hb dX1_init_27 rfl (lv_at hl 0 rfl) ?_
  refine lv_pc (pc2 := 28) rfl ?_
  refine lv_iconst (v := 0) hx hb dX1_init_28 (by decide) ?_
  refine nw_put (D := D) (ci := 1) (v := .int 0) (ty := .int) (C := RX1) (T := TX1) (N := 4) hx hb hts in1 tyX1 tyX1_ok nmX1 hown hK hS (Nat.le_refl _) at0 rfl 3 (by decide) (hts (.fieldLink RX1 21 "RiverModel$Gauges" "mayBeOff" "I") (List.mem_of_getElem? (i := 8) rfl)) (fun _ h9 => h9) rfl (by decide +kernel) rfl rfl (Nat.le_of_ble_eq_true rfl) dX1_init_29 (fun H locs at0 hz_14 o_13 hS => ?_)
  have at0 : va_at D vwCl (h0, .inr (1, [.ref (h0 + 1), .ref (h0 + 2), .ref (h0 + 3), .int 0])) H := at0
  replace hz : H.size = h0 + 4 := hz_14.trans hz
  replace at_1 := va_at.keptP (b := h0) (j := 0) 1 at_1 o_13 rfl
  replace at_5 := va_at.keptP (b := h0) (j := 0) 2 at_5 o_13 rfl
  replace at_9 := va_at.keptP (b := h0) (j := 0) 3 at_9 o_13 rfl
  clear o_13 hz_14
  refine lv_aload_n hx hb dX1_init_32 rfl (lv_at hl 0 rfl) ?_
  refine va_get (D := D) (ci := 1) (v := .ref (h0 + 1)) (C := RX1) (T := TX1) (N := 4) hx hb hts in1 hown hK (va_one at0) 0 rfl rfl 0 (by decide) (hts (.fieldLink RX1 9 "RiverModel$Gauges" "whats" "[I") (List.mem_of_getElem? (i := 5) rfl)) (fun _ h9 => h9) rfl dX1_init_33 ?_
  refine lv_bipush (v := (-4)) hx hb dX1_init_36 (by decide) ?_
  refine nw_row (W.runS (As := [.ref (h0 + 1), .int (-4)]) (rest := []) ⟨hx, hb, hml, hown, hts⟩ (c_fillI l D cI cL cC (h0 + 1) 4 (fun _ => 0) (-4) (by decide)) (va_cwS 2 hts gX1_init_J7_fill_53178 rfl rfl rfl (by decide +kernel) ⟨Nat.le_of_ble_eq_true rfl, Nat.le_of_ble_eq_true rfl⟩) (rP_S at_1 hE) rfl rfl hl.1 rfl (lv_room (Nat.le_of_ble_eq_true rfl)) dX1_init_38 ⟨Nat.le_of_ble_eq_true rfl, Nat.le_of_ble_eq_true rfl⟩) (fun H L ee hp at_1 hz_18 o_16 hL_19 => ?_)
  obtain ⟨g_15, rfl, hg_17⟩ := hp
  replace hS := cF.row hS hz_18 o_16 hL_19 (Nat.le_add_right _ _)
  replace hz : H.size = h0 + 4 := hz_18.trans hz
  generalize _ ++ L = locs at hS ⊢
  replace at0 := va_at.keptP (b := h0) (j := 1) 0 at0 o_16 rfl
  replace at_5 := va_at.keptP (b := h0) (j := 1) 2 at_5 o_16 rfl
  replace at_9 := va_at.keptP (b := h0) (j := 1) 3 at_9 o_16 rfl
  clear o_16 hz_18 hL_19
  refine lv_aload_n hx hb dX1_init_41 rfl (lv_at hl 0 rfl) ?_
  refine va_get (D := D) (ci := 1) (v := .ref (h0 + 3)) (C := RX1) (T := TX1) (N := 4) hx hb hts in1 hown hK (va_one at0) 0 rfl rfl 2 (by decide) (hts (.fieldLink RX1 18 "RiverModel$Gauges" "seen" "[I") (List.mem_of_getElem? (i := 7) rfl)) (fun _ h9 => h9) rfl dX1_init_42 ?_
  refine lv_pc (pc2 := 45) rfl ?_
  refine lv_iconst (v := (-1)) hx hb dX1_init_45 (by decide) ?_
  refine nw_row (W.runS (As := [.ref (h0 + 3), .int (-1)]) (rest := []) ⟨hx, hb, hml, hown, hts⟩ (c_fillI l D cI cL cC (h0 + 3) 384 (fun _ => 0) (-1) (by decide)) (va_cwS 2 hts gX1_init_J7_fill_53178 rfl rfl rfl (by decide +kernel) ⟨Nat.le_of_ble_eq_true rfl, Nat.le_of_ble_eq_true rfl⟩) (rP_S at_9 hE) rfl rfl hl.1 rfl (lv_room (Nat.le_of_ble_eq_true rfl)) dX1_init_46 ⟨Nat.le_of_ble_eq_true rfl, Nat.le_of_ble_eq_true rfl⟩) (fun H L ee hp at_9 hz_23 o_21 hL_24 => ?_)
  obtain ⟨g_20, rfl, hg_22⟩ := hp
  replace hS := cF.row hS hz_23 o_21 hL_24 (Nat.le_add_right _ _)
  replace hz : H.size = h0 + 4 := hz_23.trans hz
  generalize _ ++ L = locs at hS ⊢
  replace at0 := va_at.keptP (b := h0) (j := 3) 0 at0 o_21 rfl
  replace at_1 := va_at.keptP (b := h0) (j := 3) 1 at_1 o_21 rfl
  replace at_5 := va_at.keptP (b := h0) (j := 3) 2 at_5 o_21 rfl
  clear o_21 hz_23 hL_24
  have sg_25 : tS D (fF cI cL cC 0 gR) [21] (h0 + 1) H := tS.one at_1 (fun t => ⟨_, rfl, hg_17⟩)
  have sg_26 : tS D (fF cI cL cC 0 gR) [22] (h0 + 2) H := tS.one at_5 (fun t => ⟨_, rfl⟩)
  have sg_27 : tS D (fF cI cL cC 0 gR) [23] (h0 + 3) H := tS.one at_9 (fun t => ⟨_, rfl, hg_22⟩)
  have sj_28 : tS D (fF cI cL cC 0 gR) [22, 23] (h0 + 2) H := tS.app3 1 sg_26 sg_27 rfl rfl
  have sj_29 : tS D (fF cI cL cC 0 gR) [21, 22, 23] (h0 + 1) H := tS.app3 1 sg_25 sj_28 rfl rfl
  have hT : tS D (fF cI cL cC 0 gR) [21, 22, 23] (h0 + 1) H := sj_29
  have hT : tS D (fF cI cL cC 0 gR) [6, 21, 22, 23] h0 H := tS.cons at0 hT (fun t h1 ht => ⟨h0 + 1, h0 + 2, h0 + 3, rfl, (ht 0 (by decide)), (ht 1 (by decide)), (ht 2 (by decide))⟩)
  exact W.vret hx hb hr (fun u hu _ => ⟨rfl, by rw [hu]; exact hT, by rw [hu, hz]; rfl, by rw [hu]; exact hS.2.1⟩) hS.2.2 dX1_init_49 hlk

set_option maxHeartbeats 4000000 in
set_option maxRecDepth 100000 in
theorem cc_X3 (l : Launch) (D : va_G) (cI cL cC : ClassId) (gR : Int32) (h0 : Nat) : Met l yX3_init wsX3_init ({ frames := 1, cells := 5, slots := 10, locals := 12 }) (cP D cI cL cC 2 [.null, .null, .null, .null, .null] h0) (cQ D (fF cI cL cC 0 gR) [7, 24, 25, 26, 27, 28] h0) 5 10 (fun q => h0 ≤ q) := by
  refine cM_ofW (cc := cX3_init) (maxL := 1) (by decide) rfl rfl (by decide) ?_
  intro p e s m below meth c hx hb hr hml hown hts hlk hin hz at0 hK hE hS ls hl
  have hl : lv_has ls 1 [(0, .ref h0)] := hl
  have in3 : ∀ w ∈ wsX30, w ∈ wsX3_init := fun w h => List.mem_cons_of_mem _ (List.mem_append_right _ h)
  refine lv_aload_n hx hb dX3_init_0 rfl (lv_at hl 0 rfl) ?_
  refine W.objInit hx hb hown (hts (.methodLink RX3 3 objectInit) (List.mem_of_getElem? (i := 1) rfl)) (hts (.instanceMethod objectInit) (List.mem_of_getElem? (i := 2) rfl)) (hts (.code objectInit ⟨#[0xb1]⟩ 1 none) (List.mem_of_getElem? (i := 3) rfl)) rfl (by rw [hml]; exact hl.1) rfl dX3_init_1 (Nat.le_of_ble_eq_true rfl) (Nat.le_of_ble_eq_true rfl) ?_
  refine W.eq (g2 := F0 m 4 ls []) rfl ?_
  refine lv_aload_n hx hb dX3_init_4 rfl (lv_at hl 0 rfl) ?_
  refine lv_iconst (v := 2) hx hb dX3_init_5 (by decide) ?_
  refine nw_newI (N := 2) (z := h0 + 1) hx hb (hts (.arrayClass .int) (List.mem_of_getElem? (i := 4) rfl)) hK hS hz (Nat.le_add_right _ _) (by decide) (by decide) (by decide) (Nat.le_of_ble_eq_true rfl) (Nat.le_of_ble_eq_true rfl) dX3_init_6 (fun H at_1 hz o_2 hS => ?_)
  replace at0 := va_at.keptA (b := h0) (z := 1) 0 at0 o_2 (Nat.le_of_ble_eq_true rfl)
  clear o_2
  have hz : H.size = h0 + 2 := hz
  refine nw_putF (D := D) (ci := 2) (v := .ref (h0 + 1)) (ty := .array .int) (C := RX3) (T := TX3) (N := 5) hx hb hts in3 tyX3 tyX3_ok nmX3 hown hK hS (Nat.le_refl _) at0 rfl 0 (by decide) (hts (.fieldLink RX3 9 "RiverModel$Knobs" "items" "[I") (List.mem_of_getElem? (i := 5) rfl)) (fun _ h9 => h9) rfl hin rfl (by decide +kernel) rfl rfl (Nat.le_of_ble_eq_true rfl) dX3_init_8 (fun H locs at0 hz_4 o_3 hS => ?_)
  have at0 : va_at D vwCl (h0, .inr (2, [.ref (h0 + 1), .null, .null, .null, .null])) H := at0
  replace hz : H.size = h0 + 2 := hz_4.trans hz
  replace at_1 := va_at.keptP (b := h0) (j := 0) 1 at_1 o_3 rfl
  clear o_3 hz_4
  refine lv_aload_n hx hb dX3_init_11 rfl (lv_at hl 0 rfl) ?_
  refine lv_pc (pc2 := 12) rfl ?_
  refine lv_iconst (v := 2) hx hb dX3_init_12 (by decide) ?_
  refine nw_newI (N := 2) (z := h0 + 2) hx hb (hts (.arrayClass .int) (List.mem_of_getElem? (i := 4) rfl)) hK hS hz (Nat.le_add_right _ _) (by decide) (by decide) (by decide) (Nat.le_of_ble_eq_true rfl) (Nat.le_of_ble_eq_true rfl) dX3_init_13 (fun H at_5 hz o_6 hS => ?_)
  replace at0 := va_at.keptA (b := h0) (z := 2) 0 at0 o_6 (Nat.le_of_ble_eq_true rfl)
  replace at_1 := va_at.keptA (b := h0) (z := 2) 1 at_1 o_6 (Nat.le_of_ble_eq_true rfl)
  clear o_6
  have hz : H.size = h0 + 3 := hz
  refine nw_putF (D := D) (ci := 2) (v := .ref (h0 + 2)) (ty := .array .int) (C := RX3) (T := TX3) (N := 5) hx hb hts in3 tyX3 tyX3_ok nmX3 hown hK hS (Nat.le_refl _) at0 rfl 1 (by decide) (hts (.fieldLink RX3 15 "RiverModel$Knobs" "numbers" "[I") (List.mem_of_getElem? (i := 6) rfl)) (fun _ h9 => h9) rfl hin rfl (by decide +kernel) rfl rfl (Nat.le_of_ble_eq_true rfl) dX3_init_15 (fun H locs at0 hz_8 o_7 hS => ?_)
  have at0 : va_at D vwCl (h0, .inr (2, [.ref (h0 + 1), .ref (h0 + 2), .null, .null, .null])) H := at0
  replace hz : H.size = h0 + 3 := hz_8.trans hz
  replace at_1 := va_at.keptP (b := h0) (j := 0) 1 at_1 o_7 rfl
  replace at_5 := va_at.keptP (b := h0) (j := 0) 2 at_5 o_7 rfl
  clear o_7 hz_8
  refine lv_aload_n hx hb dX3_init_18 rfl (lv_at hl 0 rfl) ?_
  refine lv_iconst (v := 2) hx hb dX3_init_19 (by decide) ?_
  refine nw_newI (N := 2) (z := h0 + 3) hx hb (hts (.arrayClass .int) (List.mem_of_getElem? (i := 4) rfl)) hK hS hz (Nat.le_add_right _ _) (by decide) (by decide) (by decide) (Nat.le_of_ble_eq_true rfl) (Nat.le_of_ble_eq_true rfl) dX3_init_20 (fun H at_9 hz o_10 hS => ?_)
  replace at0 := va_at.keptA (b := h0) (z := 3) 0 at0 o_10 (Nat.le_of_ble_eq_true rfl)
  replace at_1 := va_at.keptA (b := h0) (z := 3) 1 at_1 o_10 (Nat.le_of_ble_eq_true rfl)
  replace at_5 := va_at.keptA (b := h0) (z := 3) 2 at_5 o_10 (Nat.le_of_ble_eq_true rfl)
  clear o_10
  have hz : H.size = h0 + 4 := hz
  refine nw_putF (D := D) (ci := 2) (v := .ref (h0 + 3)) (ty := .array .int) (C := RX3) (T := TX3) (N := 5) hx hb hts in3 tyX3 tyX3_ok nmX3 hown hK hS (Nat.le_refl _) at0 rfl 2 (by decide) (hts (.fieldLink RX3 18 "RiverModel$Knobs" "froms" "[I") (List.mem_of_getElem? (i := 7) rfl)) (fun _ h9 => h9) rfl hin rfl (by decide +kernel) rfl rfl (Nat.le_of_ble_eq_true rfl) dX3_init_22 (fun H locs at0 hz_12 o_11 hS => ?_)
  have at0 : va_at D vwCl (h0, .inr (2, [.ref (h0 + 1), .ref (h0 + 2), .ref (h0 + 3), .null, .null])) H := at0
  replace hz : H.size = h0 + 4 := hz_12.trans hz
  replace at_1 := va_at.keptP (b := h0) (j := 0) 1 at_1 o_11 rfl
  replace at_5 := va_at.keptP (b := h0) (j := 0) 2 at_5 o_11 rfl
  replace at_9 := va_at.keptP (b := h0) (j := 0) 3 at_9 o_11 rfl
  clear o_11 hz_12
  refine lv_aload_n hx hb dX3_init_25 rfl (lv_at hl 0 rfl) ?_
  refine lv_pc (pc2 := 26) rfl ?_
  refine lv_iconst (v := 2) hx hb dX3_init_26 (by decide) ?_
  refine nw_newI (N := 2) (z := h0 + 4) hx hb (hts (.arrayClass .int) (List.mem_of_getElem? (i := 4) rfl)) hK hS hz (Nat.le_add_right _ _) (by decide) (by decide) (by decide) (Nat.le_of_ble_eq_true rfl) (Nat.le_of_ble_eq_true rfl) dX3_init_27 (fun H at_13 hz o_14 hS => ?_)
  replace at0 := va_at.keptA (b := h0) (z := 4) 0 at0 o_14 (Nat.le_of_ble_eq_true rfl)
  replace at_1 := va_at.keptA (b := h0) (z := 4) 1 at_1 o_14 (Nat.le_of_ble_eq_true rfl)
  replace at_5 := va_at.keptA (b := h0) (z := 4) 2 at_5 o_14 (Nat.le_of_ble_eq_true rfl)
  replace at_9 := va_at.keptA (b := h0) (z := 4) 3 at_9 o_14 (Nat.le_of_ble_eq_true rfl)
  clear o_14
  have hz : H.size = h0 + 5 := hz
  refine nw_putF (D := D) (ci := 2) (v := .ref (h0 + 4)) (ty := .array .int) (C := RX3) (T := TX3) (N := 5) hx hb hts in3 tyX3 tyX3_ok nmX3 hown hK hS (Nat.le_refl _) at0 rfl 3 (by decide) (hts (.fieldLink RX3 21 "RiverModel$Knobs" "steps" "[I") (List.mem_of_getElem? (i := 8) rfl)) (fun _ h9 => h9) rfl hin rfl (by decide +kernel) rfl rfl (Nat.le_of_ble_eq_true rfl) dX3_init_29 (fun H locs at0 hz_16 o_15 hS => ?_)
  have at0 : va_at D vwCl (h0, .inr (2, [.ref (h0 + 1), .ref (h0 + 2), .ref (h0 + 3), .ref (h0 + 4), .null])) H := at0
  replace hz : H.size = h0 + 5 := hz_16.trans hz
  replace at_1 := va_at.keptP (b := h0) (j := 0) 1 at_1 o_15 rfl
  replace at_5 := va_at.keptP (b := h0) (j := 0) 2 at_5 o_15 rfl
  replace at_9 := va_at.keptP (b := h0) (j := 0) 3 at_9 o_15 rfl
  replace at_13 := va_at.keptP (b := h0) (j := 0) 4 at_13 o_15 rfl
  clear o_15 hz_16
  refine lv_aload_n hx hb dX3_init_32 rfl (lv_at hl 0 rfl) ?_
  refine lv_iconst (v := 2) hx hb dX3_init_33 (by decide) ?_
  refine nw_newI (N := 2) (z := h0 + 5) hx hb (hts (.arrayClass .int) (List.mem_of_getElem? (i := 4) rfl)) hK hS hz (Nat.le_add_right _ _) (by decide) (by decide) (by decide) (Nat.le_of_ble_eq_true rfl) (Nat.le_of_ble_eq_true rfl) dX3_init_34 (fun H at_17 hz o_18 hS => ?_)
  replace at0 := va_at.keptA (b := h0) (z := 5) 0 at0 o_18 (Nat.le_of_ble_eq_true rfl)
  replace at_1 := va_at.keptA (b := h0) (z := 5) 1 at_1 o_18 (Nat.le_of_ble_eq_true rfl)
  replace at_5 := va_at.keptA (b := h0) (z := 5) 2 at_5 o_18 (Nat.le_of_ble_eq_true rfl)
  replace at_9 := va_at.keptA (b := h0) (z := 5) 3 at_9 o_18 (Nat.le_of_ble_eq_true rfl)
  replace at_13 := va_at.keptA (b := h0) (z := 5) 4 at_13 o_18 (Nat.le_of_ble_eq_true rfl)
  clear o_18
  have hz : H.size = h0 + 6 := hz
  refine nw_putF (D := D) (ci := 2) (v := .ref (h0 + 5)) (ty := .array .int) (C := RX3) (T := TX3) (N := 5) hx hb hts in3 tyX3 tyX3_ok nmX3 hown hK hS (Nat.le_refl _) at0 rfl 4 (by decide) (hts (.fieldLink RX3 24 "RiverModel$Knobs" "manys" "[I") (List.mem_of_getElem? (i := 9) rfl)) (fun _ h9 => h9) rfl hin rfl (by decide +kernel) rfl rfl (Nat.le_of_ble_eq_true rfl) dX3_init_36 (fun H locs at0 hz_20 o_19 hS => ?_)
  have at0 : va_at D vwCl (h0, .inr (2, [.ref (h0 + 1), .ref (h0 + 2), .ref (h0 + 3), .ref (h0 + 4), .ref (h0 + 5)])) H := at0
  replace hz : H.size = h0 + 6 := hz_20.trans hz
  replace at_1 := va_at.keptP (b := h0) (j := 0) 1 at_1 o_19 rfl
  replace at_5 := va_at.keptP (b := h0) (j := 0) 2 at_5 o_19 rfl
  replace at_9 := va_at.keptP (b := h0) (j := 0) 3 at_9 o_19 rfl
  replace at_13 := va_at.keptP (b := h0) (j := 0) 4 at_13 o_19 rfl
  replace at_17 := va_at.keptP (b := h0) (j := 0) 5 at_17 o_19 rfl
  clear o_19 hz_20
  have sg_21 : tS D (fF cI cL cC 0 gR) [24] (h0 + 1) H := tS.one at_1 (fun t => ⟨_, rfl⟩)
  have sg_22 : tS D (fF cI cL cC 0 gR) [25] (h0 + 2) H := tS.one at_5 (fun t => ⟨_, rfl⟩)
  have sg_23 : tS D (fF cI cL cC 0 gR) [26] (h0 + 3) H := tS.one at_9 (fun t => ⟨_, rfl⟩)
  have sg_24 : tS D (fF cI cL cC 0 gR) [27] (h0 + 4) H := tS.one at_13 (fun t => ⟨_, rfl⟩)
  have sg_25 : tS D (fF cI cL cC 0 gR) [28] (h0 + 5) H := tS.one at_17 (fun t => ⟨_, rfl, fun _ _ => rfl⟩)
  have sj_26 : tS D (fF cI cL cC 0 gR) [27, 28] (h0 + 4) H := tS.app3 1 sg_24 sg_25 rfl rfl
  have sj_27 : tS D (fF cI cL cC 0 gR) [26, 27, 28] (h0 + 3) H := tS.app3 1 sg_23 sj_26 rfl rfl
  have sj_28 : tS D (fF cI cL cC 0 gR) [25, 26, 27, 28] (h0 + 2) H := tS.app3 1 sg_22 sj_27 rfl rfl
  have sj_29 : tS D (fF cI cL cC 0 gR) [24, 25, 26, 27, 28] (h0 + 1) H := tS.app3 1 sg_21 sj_28 rfl rfl
  have hT : tS D (fF cI cL cC 0 gR) [24, 25, 26, 27, 28] (h0 + 1) H := sj_29
  have hT : tS D (fF cI cL cC 0 gR) [7, 24, 25, 26, 27, 28] h0 H := tS.cons at0 hT (fun t h1 ht => ⟨h0 + 1, h0 + 2, h0 + 3, h0 + 4, h0 + 5, rfl, (ht 0 (by decide)), (ht 1 (by decide)), (ht 2 (by decide)), (ht 3 (by decide)), (ht 4 (by decide))⟩)
  exact W.vret hx hb hr (fun u hu _ => ⟨rfl, by rw [hu]; exact hT, by rw [hu, hz]; rfl, by rw [hu]; exact hS.2.1⟩) hS.2.2 dX3_init_39 hlk

set_option maxHeartbeats 4000000 in
set_option maxRecDepth 100000 in
theorem cc_X8 (l : Launch) (D : va_G) (cI cL cC : ClassId) (gR : Int32) (h0 : Nat) : Met l yX8_init wsX8_init ({ frames := 1, cells := 3, slots := 104, locals := 12 }) (cP D cI cL cC 7 [.null, .null, .null] h0) (cQ D (fF cI cL cC 0 gR) [8, 29, 30, 31] h0) 3 104 (fun q => h0 ≤ q) := by
  refine cM_ofW (cc := cX8_init) (maxL := 1) (by decide) rfl rfl (by decide) ?_
  intro p e s m below meth c hx hb hr hml hown hts hlk hin hz at0 hK hE hS ls hl
  have hl : lv_has ls 1 [(0, .ref h0)] := hl
  have in8 : ∀ w ∈ wsX80, w ∈ wsX8_init := fun w h => List.mem_cons_of_mem _ (List.mem_append_right _ h)
  refine lv_aload_n hx hb dX8_init_0 rfl (lv_at hl 0 rfl) ?_
  refine W.objInit hx hb hown (hts (.methodLink RX8 3 objectInit) (List.mem_of_getElem? (i := 1) rfl)) (hts (.instanceMethod objectInit) (List.mem_of_getElem? (i := 2) rfl)) (hts (.code objectInit ⟨#[0xb1]⟩ 1 none) (List.mem_of_getElem? (i := 3) rfl)) rfl (by rw [hml]; exact hl.1) rfl dX8_init_1 (Nat.le_of_ble_eq_true rfl) (Nat.le_of_ble_eq_true rfl) ?_
  refine W.eq (g2 := F0 m 4 ls []) rfl ?_
  refine lv_aload_n hx hb dX8_init_4 rfl (lv_at hl 0 rfl) ?_
  refine lv_iconst (v := 4) hx hb dX8_init_5 (by decide) ?_
  refine nw_newI (N := 4) (z := h0 + 1) hx hb (hts (.arrayClass .int) (List.mem_of_getElem? (i := 4) rfl)) hK hS hz (Nat.le_add_right _ _) (by decide) (by decide) (by decide) (Nat.le_of_ble_eq_true rfl) (Nat.le_of_ble_eq_true rfl) dX8_init_6 (fun H at_1 hz o_2 hS => ?_)
  replace at0 := va_at.keptA (b := h0) (z := 1) 0 at0 o_2 (Nat.le_of_ble_eq_true rfl)
  clear o_2
  have hz : H.size = h0 + 2 := hz
  refine nw_putF (D := D) (ci := 7) (v := .ref (h0 + 1)) (ty := .array .int) (C := RX8) (T := TX8) (N := 3) hx hb hts in8 tyX8 tyX8_ok nmX8 hown hK hS (Nat.le_refl _) at0 rfl 0 (by decide) (hts (.fieldLink RX8 9 "RiverModel$Worlds" "weights" "[I") (List.mem_of_getElem? (i := 5) rfl)) (fun _ h9 => h9) rfl hin rfl (by decide +kernel) rfl rfl (Nat.le_of_ble_eq_true rfl) dX8_init_8 (fun H locs at0 hz_4 o_3 hS => ?_)
  have at0 : va_at D vwCl (h0, .inr (7, [.ref (h0 + 1), .null, .null])) H := at0
  replace hz : H.size = h0 + 2 := hz_4.trans hz
  replace at_1 := va_at.keptP (b := h0) (j := 0) 1 at_1 o_3 rfl
  clear o_3 hz_4
  refine lv_aload_n hx hb dX8_init_11 rfl (lv_at hl 0 rfl) ?_
  refine lv_pc (pc2 := 12) rfl ?_
  refine lv_iconst (v := 4) hx hb dX8_init_12 (by decide) ?_
  refine nw_newI (N := 4) (z := h0 + 2) hx hb (hts (.arrayClass .int) (List.mem_of_getElem? (i := 4) rfl)) hK hS hz (Nat.le_add_right _ _) (by decide) (by decide) (by decide) (Nat.le_of_ble_eq_true rfl) (Nat.le_of_ble_eq_true rfl) dX8_init_13 (fun H at_5 hz o_6 hS => ?_)
  replace at0 := va_at.keptA (b := h0) (z := 2) 0 at0 o_6 (Nat.le_of_ble_eq_true rfl)
  replace at_1 := va_at.keptA (b := h0) (z := 2) 1 at_1 o_6 (Nat.le_of_ble_eq_true rfl)
  clear o_6
  have hz : H.size = h0 + 3 := hz
  refine nw_putF (D := D) (ci := 7) (v := .ref (h0 + 2)) (ty := .array .int) (C := RX8) (T := TX8) (N := 3) hx hb hts in8 tyX8 tyX8_ok nmX8 hown hK hS (Nat.le_refl _) at0 rfl 1 (by decide) (hts (.fieldLink RX8 15 "RiverModel$Worlds" "warnings" "[I") (List.mem_of_getElem? (i := 6) rfl)) (fun _ h9 => h9) rfl hin rfl (by decide +kernel) rfl rfl (Nat.le_of_ble_eq_true rfl) dX8_init_15 (fun H locs at0 hz_8 o_7 hS => ?_)
  have at0 : va_at D vwCl (h0, .inr (7, [.ref (h0 + 1), .ref (h0 + 2), .null])) H := at0
  replace hz : H.size = h0 + 3 := hz_8.trans hz
  replace at_1 := va_at.keptP (b := h0) (j := 0) 1 at_1 o_7 rfl
  replace at_5 := va_at.keptP (b := h0) (j := 0) 2 at_5 o_7 rfl
  clear o_7 hz_8
  refine lv_aload_n hx hb dX8_init_18 rfl (lv_at hl 0 rfl) ?_
  refine lv_bipush (v := 96) hx hb dX8_init_19 (by decide) ?_
  refine nw_newI (N := 96) (z := h0 + 3) hx hb (hts (.arrayClass .int) (List.mem_of_getElem? (i := 4) rfl)) hK hS hz (Nat.le_add_right _ _) (by decide) (by decide) (by decide) (Nat.le_of_ble_eq_true rfl) (Nat.le_of_ble_eq_true rfl) dX8_init_21 (fun H at_9 hz o_10 hS => ?_)
  replace at0 := va_at.keptA (b := h0) (z := 3) 0 at0 o_10 (Nat.le_of_ble_eq_true rfl)
  replace at_1 := va_at.keptA (b := h0) (z := 3) 1 at_1 o_10 (Nat.le_of_ble_eq_true rfl)
  replace at_5 := va_at.keptA (b := h0) (z := 3) 2 at_5 o_10 (Nat.le_of_ble_eq_true rfl)
  clear o_10
  have hz : H.size = h0 + 4 := hz
  refine nw_putF (D := D) (ci := 7) (v := .ref (h0 + 3)) (ty := .array .int) (C := RX8) (T := TX8) (N := 3) hx hb hts in8 tyX8 tyX8_ok nmX8 hown hK hS (Nat.le_refl _) at0 rfl 2 (by decide) (hts (.fieldLink RX8 18 "RiverModel$Worlds" "rains" "[I") (List.mem_of_getElem? (i := 7) rfl)) (fun _ h9 => h9) rfl hin rfl (by decide +kernel) rfl rfl (Nat.le_of_ble_eq_true rfl) dX8_init_23 (fun H locs at0 hz_12 o_11 hS => ?_)
  have at0 : va_at D vwCl (h0, .inr (7, [.ref (h0 + 1), .ref (h0 + 2), .ref (h0 + 3)])) H := at0
  replace hz : H.size = h0 + 4 := hz_12.trans hz
  replace at_1 := va_at.keptP (b := h0) (j := 0) 1 at_1 o_11 rfl
  replace at_5 := va_at.keptP (b := h0) (j := 0) 2 at_5 o_11 rfl
  replace at_9 := va_at.keptP (b := h0) (j := 0) 3 at_9 o_11 rfl
  clear o_11 hz_12
  have sg_13 : tS D (fF cI cL cC 0 gR) [29] (h0 + 1) H := tS.one at_1 (fun t => ⟨_, rfl, fun _ _ => rfl⟩)
  have sg_14 : tS D (fF cI cL cC 0 gR) [30] (h0 + 2) H := tS.one at_5 (fun t => ⟨_, rfl, fun _ _ => rfl⟩)
  have sg_15 : tS D (fF cI cL cC 0 gR) [31] (h0 + 3) H := tS.one at_9 (fun t => ⟨_, rfl, fun _ _ => rfl⟩)
  have sj_16 : tS D (fF cI cL cC 0 gR) [30, 31] (h0 + 2) H := tS.app3 1 sg_14 sg_15 rfl rfl
  have sj_17 : tS D (fF cI cL cC 0 gR) [29, 30, 31] (h0 + 1) H := tS.app3 1 sg_13 sj_16 rfl rfl
  have hT : tS D (fF cI cL cC 0 gR) [29, 30, 31] (h0 + 1) H := sj_17
  have hT : tS D (fF cI cL cC 0 gR) [8, 29, 30, 31] h0 H := tS.cons at0 hT (fun t h1 ht => ⟨h0 + 1, h0 + 2, h0 + 3, rfl, (ht 0 (by decide)), (ht 1 (by decide)), (ht 2 (by decide))⟩)
  exact W.vret hx hb hr (fun u hu _ => ⟨rfl, by rw [hu]; exact hT, by rw [hu, hz]; rfl, by rw [hu]; exact hS.2.1⟩) hS.2.2 dX8_init_26 hlk
end
section
set_option maxRecDepth 20000 in
theorem ggX5_init_X0_init : GoodIn wsX5_init wsX0_init := goodIn_r _ [19, 20, 2, 3, 21, 22, 23, 6, 24, 25, 26, 27, 28, 29, 40, 41, 42, 43, 44, 45, 46, 47] (by decide +kernel) (by decide +kernel)
set_option maxRecDepth 20000 in
theorem gX5_init_X0_init_n48 : GoodIn wsX5_init (wsX0_init) := ggX5_init_X0_init
theorem dX5_init_0 : decode cX5_init 0 = .ok (.aload_n 0, 1) := by decide +kernel
theorem dX5_init_1 : decode cX5_init 1 = .ok (.invokespecial 3, 3) := by decide +kernel
theorem dX5_init_4 : decode cX5_init 4 = .ok (.aload_n 0, 1) := by decide +kernel
theorem dX5_init_5 : decode cX5_init 5 = .ok (.iconst 4, 1) := by decide +kernel
theorem dX5_init_6 : decode cX5_init 6 = .ok (.anewarray 9, 3) := by decide +kernel
theorem dX5_init_9 : decode cX5_init 9 = .ok (.putfield 11, 3) := by decide +kernel
theorem dX5_init_12 : decode cX5_init 12 = .ok (.aload_n 0, 1) := by decide +kernel
theorem dX5_init_13 : decode cX5_init 13 = .ok (.iconst 4, 1) := by decide +kernel
theorem dX5_init_14 : decode cX5_init 14 = .ok (.newarray .int, 2) := by decide +kernel
theorem dX5_init_16 : decode cX5_init 16 = .ok (.putfield 17, 3) := by decide +kernel
theorem dX5_init_19 : decode cX5_init 19 = .ok (.aload_n 0, 1) := by decide +kernel
theorem dX5_init_20 : decode cX5_init 20 = .ok (.iconst 4, 1) := by decide +kernel
theorem dX5_init_21 : decode cX5_init 21 = .ok (.newarray .int, 2) := by decide +kernel
theorem dX5_init_23 : decode cX5_init 23 = .ok (.putfield 21, 3) := by decide +kernel
theorem dX5_init_26 : decode cX5_init 26 = .ok (.aload_n 0, 1) := by decide +kernel
theorem dX5_init_27 : decode cX5_init 27 = .ok (.iconst 0, 1) := by decide +kernel
theorem dX5_init_28 : decode cX5_init 28 = .ok (.putfield 24, 3) := by decide +kernel
theorem dX5_init_31 : decode cX5_init 31 = .ok (.aload_n 0, 1) := by decide +kernel
theorem dX5_init_32 : decode cX5_init 32 = .ok (.lconst 0, 1) := by decide +kernel
theorem dX5_init_33 : decode cX5_init 33 = .ok (.putfield 28, 3) := by decide +kernel
theorem dX5_init_36 : decode cX5_init 36 = .ok (.aload_n 0, 1) := by decide +kernel
theorem dX5_init_37 : decode cX5_init 37 = .ok (.iconst 0, 1) := by decide +kernel
theorem dX5_init_38 : decode cX5_init 38 = .ok (.putfield 32, 3) := by decide +kernel
theorem dX5_init_41 : decode cX5_init 41 = .ok (.aload_n 0, 1) := by decide +kernel
theorem dX5_init_42 : decode cX5_init 42 = .ok (.iconst 0, 1) := by decide +kernel
theorem dX5_init_43 : decode cX5_init 43 = .ok (.putfield 36, 3) := by decide +kernel
theorem dX5_init_46 : decode cX5_init 46 = .ok (.aload_n 0, 1) := by decide +kernel
theorem dX5_init_47 : decode cX5_init 47 = .ok (.iconst 0, 1) := by decide +kernel
theorem dX5_init_48 : decode cX5_init 48 = .ok (.putfield 39, 3) := by decide +kernel
theorem dX5_init_51 : decode cX5_init 51 = .ok (.aload_n 0, 1) := by decide +kernel
theorem dX5_init_52 : decode cX5_init 52 = .ok (.iconst 0, 1) := by decide +kernel
theorem dX5_init_53 : decode cX5_init 53 = .ok (.putfield 42, 3) := by decide +kernel
theorem dX5_init_56 : decode cX5_init 56 = .ok (.aload_n 0, 1) := by decide +kernel
theorem dX5_init_57 : decode cX5_init 57 = .ok (.lconst 0, 1) := by decide +kernel
theorem dX5_init_58 : decode cX5_init 58 = .ok (.putfield 45, 3) := by decide +kernel
theorem dX5_init_61 : decode cX5_init 61 = .ok (.iconst 0, 1) := by decide +kernel
theorem dX5_init_62 : decode cX5_init 62 = .ok (.istore_n 1, 1) := by decide +kernel
theorem dX5_init_63 : decode cX5_init 63 = .ok (.iload_n 1, 1) := by decide +kernel
theorem dX5_init_64 : decode cX5_init 64 = .ok (.iconst 4, 1) := by decide +kernel
theorem dX5_init_65 : decode cX5_init 65 = .ok (.if_icmp .ge 22, 3) := by decide +kernel
theorem dX5_init_68 : decode cX5_init 68 = .ok (.aload_n 0, 1) := by decide +kernel
theorem dX5_init_69 : decode cX5_init 69 = .ok (.getfield 11, 3) := by decide +kernel
theorem dX5_init_72 : decode cX5_init 72 = .ok (.iload_n 1, 1) := by decide +kernel
theorem dX5_init_73 : decode cX5_init 73 = .ok (.new 9, 3) := by decide +kernel
theorem dX5_init_76 : decode cX5_init 76 = .ok (.dup, 1) := by decide +kernel
theorem dX5_init_77 : decode cX5_init 77 = .ok (.invokespecial 48, 3) := by decide +kernel
theorem dX5_init_80 : decode cX5_init 80 = .ok (.aastore, 1) := by decide +kernel
theorem dX5_init_81 : decode cX5_init 81 = .ok (.iinc 1 1, 3) := by decide +kernel
theorem dX5_init_84 : decode cX5_init 84 = .ok (.goto (-21), 3) := by decide +kernel
theorem dX5_init_87 : decode cX5_init 87 = .ok (.return_, 1) := by decide +kernel
set_option maxHeartbeats 4000000 in
set_option maxRecDepth 100000 in
theorem cc_X5 (l : Launch) (D : va_G) (cI cL cC : ClassId) (gR : Int32) (h0 : Nat) : Met l yX5_init wsX5_init ({ frames := 2, cells := 23, slots := 1116, locals := 32 }) (cP D cI cL cC 4 [.null, .null, .null, .int 0, .long 0, .int 0, .int 0, .int 0, .int 0, .long 0] h0) (cQ D (fF cI cL cC 0 gR) [9, 32, 33, 34, 5, 17, 18, 19, 20, 5, 17, 18, 19, 20, 5, 17, 18, 19, 20, 5, 17, 18, 19, 20] h0) 23 1116 (fun q => h0 ≤ q) := by
  refine cM_ofW (cc := cX5_init) (maxL := 2) (by decide) rfl rfl (by decide) ?_
  intro p e s m below meth c hx hb hr hml hown hts hlk hin hz at0 hK hE hS ls hl
  have hl : lv_has ls 2 [(0, .ref h0)] := hl
  have in5 : ∀ w ∈ wsX50, w ∈ wsX5_init := fun w h => List.mem_cons_of_mem _ (List.mem_append_left _ (List.mem_append_right _ h))
  have in0 : ∀ w ∈ wsX00, w ∈ wsX5_init := fun w h => List.mem_cons_of_mem _ (List.mem_append_right _ h)
  refine lv_aload_n hx hb dX5_init_0 rfl (lv_at hl 0 rfl) ?_
  refine W.objInit hx hb hown (hts (.methodLink RX5 3 objectInit) (List.mem_of_getElem? (i := 1) rfl)) (hts (.instanceMethod objectInit) (List.mem_of_getElem? (i := 2) rfl)) (hts (.code objectInit ⟨#[0xb1]⟩ 1 none) (List.mem_of_getElem? (i := 3) rfl)) rfl (by rw [hml]; exact hl.1) rfl dX5_init_1 (Nat.le_of_ble_eq_true rfl) (Nat.le_of_ble_eq_true rfl) ?_
  refine W.eq (g2 := F0 m 4 ls []) rfl ?_
  refine lv_aload_n hx hb dX5_init_4 rfl (lv_at hl 0 rfl) ?_
  refine lv_iconst (v := 4) hx hb dX5_init_5 (by decide) ?_
  refine nw_newq (N := 4) (z := h0 + 1) hx hb hown (hts (.classLink RX5 9 RX0) (List.mem_of_getElem? (i := 4) rfl)) hE hS hz (Nat.le_add_right _ _) (by decide) (by decide) (by decide) (Nat.le_of_ble_eq_true rfl) (Nat.le_of_ble_eq_true rfl) dX5_init_6 (fun H at_1 hz o_2 hS => ?_)
  replace at0 := va_at.keptA (b := h0) (z := 1) 0 at0 o_2 (Nat.le_of_ble_eq_true rfl)
  clear o_2
  have hz : H.size = h0 + 2 := hz
  refine nw_putF (D := D) (ci := 4) (v := .ref (h0 + 1)) (ty := .array (.object "RiverModel$Course")) (C := RX5) (T := TX5) (N := 10) hx hb hts in5 tyX5 tyX5_ok nmX5 hown hK hS (Nat.le_refl _) at0 rfl 0 (by decide) (hts (.fieldLink RX5 11 "RiverModel$Search" "blockEnds" "[LRiverModel$Course;") (List.mem_of_getElem? (i := 5) rfl)) (fun _ h9 => h9) rfl hin rfl (by decide +kernel) rfl rfl (Nat.le_of_ble_eq_true rfl) dX5_init_9 (fun H locs at0 hz_4 o_3 hS => ?_)
  have at0 : va_at D vwCl (h0, .inr (4, [.ref (h0 + 1), .null, .null, .int 0, .long 0, .int 0, .int 0, .int 0, .int 0, .long 0])) H := at0
  replace hz : H.size = h0 + 2 := hz_4.trans hz
  replace at_1 := va_at.keptP (b := h0) (j := 0) 1 at_1 o_3 rfl
  clear o_3 hz_4
  refine lv_aload_n hx hb dX5_init_12 rfl (lv_at hl 0 rfl) ?_
  refine lv_pc (pc2 := 13) rfl ?_
  refine lv_iconst (v := 4) hx hb dX5_init_13 (by decide) ?_
  refine nw_newI (N := 4) (z := h0 + 2) hx hb (hts (.arrayClass .int) (List.mem_of_getElem? (i := 6) rfl)) hK hS hz (Nat.le_add_right _ _) (by decide) (by decide) (by decide) (Nat.le_of_ble_eq_true rfl) (Nat.le_of_ble_eq_true rfl) dX5_init_14 (fun H at_5 hz o_6 hS => ?_)
  replace at0 := va_at.keptA (b := h0) (z := 2) 0 at0 o_6 (Nat.le_of_ble_eq_true rfl)
  replace at_1 := va_at.keptA (b := h0) (z := 2) 1 at_1 o_6 (Nat.le_of_ble_eq_true rfl)
  clear o_6
  have hz : H.size = h0 + 3 := hz
  refine nw_putF (D := D) (ci := 4) (v := .ref (h0 + 2)) (ty := .array .int) (C := RX5) (T := TX5) (N := 10) hx hb hts in5 tyX5 tyX5_ok nmX5 hown hK hS (Nat.le_refl _) at0 rfl 1 (by decide) (hts (.fieldLink RX5 17 "RiverModel$Search" "tried" "[I") (List.mem_of_getElem? (i := 7) rfl)) (fun _ h9 => h9) rfl hin rfl (by decide +kernel) rfl rfl (Nat.le_of_ble_eq_true rfl) dX5_init_16 (fun H locs at0 hz_8 o_7 hS => ?_)
  have at0 : va_at D vwCl (h0, .inr (4, [.ref (h0 + 1), .ref (h0 + 2), .null, .int 0, .long 0, .int 0, .int 0, .int 0, .int 0, .long 0])) H := at0
  replace hz : H.size = h0 + 3 := hz_8.trans hz
  replace at_1 := va_at.keptP (b := h0) (j := 0) 1 at_1 o_7 rfl
  replace at_5 := va_at.keptP (b := h0) (j := 0) 2 at_5 o_7 rfl
  clear o_7 hz_8
  refine lv_aload_n hx hb dX5_init_19 rfl (lv_at hl 0 rfl) ?_
  refine lv_iconst (v := 4) hx hb dX5_init_20 (by decide) ?_
  refine nw_newI (N := 4) (z := h0 + 3) hx hb (hts (.arrayClass .int) (List.mem_of_getElem? (i := 6) rfl)) hK hS hz (Nat.le_add_right _ _) (by decide) (by decide) (by decide) (Nat.le_of_ble_eq_true rfl) (Nat.le_of_ble_eq_true rfl) dX5_init_21 (fun H at_9 hz o_10 hS => ?_)
  replace at0 := va_at.keptA (b := h0) (z := 3) 0 at0 o_10 (Nat.le_of_ble_eq_true rfl)
  replace at_1 := va_at.keptA (b := h0) (z := 3) 1 at_1 o_10 (Nat.le_of_ble_eq_true rfl)
  replace at_5 := va_at.keptA (b := h0) (z := 3) 2 at_5 o_10 (Nat.le_of_ble_eq_true rfl)
  clear o_10
  have hz : H.size = h0 + 4 := hz
  refine nw_putF (D := D) (ci := 4) (v := .ref (h0 + 3)) (ty := .array .int) (C := RX5) (T := TX5) (N := 10) hx hb hts in5 tyX5 tyX5_ok nmX5 hown hK hS (Nat.le_refl _) at0 rfl 2 (by decide) (hts (.fieldLink RX5 21 "RiverModel$Search" "found" "[I") (List.mem_of_getElem? (i := 8) rfl)) (fun _ h9 => h9) rfl hin rfl (by decide +kernel) rfl rfl (Nat.le_of_ble_eq_true rfl) dX5_init_23 (fun H locs at0 hz_12 o_11 hS => ?_)
  have at0 : va_at D vwCl (h0, .inr (4, [.ref (h0 + 1), .ref (h0 + 2), .ref (h0 + 3), .int 0, .long 0, .int 0, .int 0, .int 0, .int 0, .long 0])) H := at0
  replace hz : H.size = h0 + 4 := hz_12.trans hz
  replace at_1 := va_at.keptP (b := h0) (j := 0) 1 at_1 o_11 rfl
  replace at_5 := va_at.keptP (b := h0) (j := 0) 2 at_5 o_11 rfl
  replace at_9 := va_at.keptP (b := h0) (j := 0) 3 at_9 o_11 rfl
  clear o_11 hz_12
  refine lv_aload_n hx hb dX5_init_26 rfl (lv_at hl 0 rfl) ?_
  refine lv_pc (pc2 := 27) rfl ?_
  refine lv_iconst (v := 0) hx hb dX5_init_27 (by decide) ?_
  refine nw_put (D := D) (ci := 4) (v := .int 0) (ty := .boolean) (C := RX5) (T := TX5) (N := 10) hx hb hts in5 tyX5 tyX5_ok nmX5 hown hK hS (Nat.le_refl _) at0 rfl 3 (by decide) (hts (.fieldLink RX5 24 "RiverModel$Search" "isFound" "Z") (List.mem_of_getElem? (i := 9) rfl)) (fun _ h9 => h9) rfl (by decide +kernel) (by decide) (by decide) (Nat.le_of_ble_eq_true rfl) dX5_init_28 (fun H locs at0 hz_14 o_13 hS => ?_)
  have at0 : va_at D vwCl (h0, .inr (4, [.ref (h0 + 1), .ref (h0 + 2), .ref (h0 + 3), .int 0, .long 0, .int 0, .int 0, .int 0, .int 0, .long 0])) H := at0
  replace hz : H.size = h0 + 4 := hz_14.trans hz
  replace at_1 := va_at.keptP (b := h0) (j := 0) 1 at_1 o_13 rfl
  replace at_5 := va_at.keptP (b := h0) (j := 0) 2 at_5 o_13 rfl
  replace at_9 := va_at.keptP (b := h0) (j := 0) 3 at_9 o_13 rfl
  clear o_13 hz_14
  refine lv_aload_n hx hb dX5_init_31 rfl (lv_at hl 0 rfl) ?_
  refine lv_lconst (v := 0) hx hb dX5_init_32 (by decide) ?_
  refine nw_put (D := D) (ci := 4) (v := .long 0) (ty := .long) (C := RX5) (T := TX5) (N := 10) hx hb hts in5 tyX5 tyX5_ok nmX5 hown hK hS (Nat.le_refl _) at0 rfl 4 (by decide) (hts (.fieldLink RX5 28 "RiverModel$Search" "leastPeak" "J") (List.mem_of_getElem? (i := 10) rfl)) (fun _ h9 => h9) rfl (by decide +kernel) rfl rfl (Nat.le_of_ble_eq_true rfl) dX5_init_33 (fun H locs at0 hz_16 o_15 hS => ?_)
  have at0 : va_at D vwCl (h0, .inr (4, [.ref (h0 + 1), .ref (h0 + 2), .ref (h0 + 3), .int 0, .long 0, .int 0, .int 0, .int 0, .int 0, .long 0])) H := at0
  replace hz : H.size = h0 + 4 := hz_16.trans hz
  replace at_1 := va_at.keptP (b := h0) (j := 0) 1 at_1 o_15 rfl
  replace at_5 := va_at.keptP (b := h0) (j := 0) 2 at_5 o_15 rfl
  replace at_9 := va_at.keptP (b := h0) (j := 0) 3 at_9 o_15 rfl
  clear o_15 hz_16
  refine lv_aload_n hx hb dX5_init_36 rfl (lv_at hl 0 rfl) ?_
  refine lv_iconst (v := 0) hx hb dX5_init_37 (by decide) ?_
  refine nw_put (D := D) (ci := 4) (v := .int 0) (ty := .int) (C := RX5) (T := TX5) (N := 10) hx hb hts in5 tyX5 tyX5_ok nmX5 hown hK hS (Nat.le_refl _) at0 rfl 5 (by decide) (hts (.fieldLink RX5 32 "RiverModel$Search" "gate" "I") (List.mem_of_getElem? (i := 11) rfl)) (fun _ h9 => h9) rfl (by decide +kernel) rfl rfl (Nat.le_of_ble_eq_true rfl) dX5_init_38 (fun H locs at0 hz_18 o_17 hS => ?_)
  have at0 : va_at D vwCl (h0, .inr (4, [.ref (h0 + 1), .ref (h0 + 2), .ref (h0 + 3), .int 0, .long 0, .int 0, .int 0, .int 0, .int 0, .long 0])) H := at0
  replace hz : H.size = h0 + 4 := hz_18.trans hz
  replace at_1 := va_at.keptP (b := h0) (j := 0) 1 at_1 o_17 rfl
  replace at_5 := va_at.keptP (b := h0) (j := 0) 2 at_5 o_17 rfl
  replace at_9 := va_at.keptP (b := h0) (j := 0) 3 at_9 o_17 rfl
  clear o_17 hz_18
  refine lv_pc (pc2 := 41) rfl ?_
  refine lv_aload_n hx hb dX5_init_41 rfl (lv_at hl 0 rfl) ?_
  refine lv_iconst (v := 0) hx hb dX5_init_42 (by decide) ?_
  refine nw_put (D := D) (ci := 4) (v := .int 0) (ty := .int) (C := RX5) (T := TX5) (N := 10) hx hb hts in5 tyX5 tyX5_ok nmX5 hown hK hS (Nat.le_refl _) at0 rfl 6 (by decide) (hts (.fieldLink RX5 36 "RiverModel$Search" "blockHours" "I") (List.mem_of_getElem? (i := 12) rfl)) (fun _ h9 => h9) rfl (by decide +kernel) rfl rfl (Nat.le_of_ble_eq_true rfl) dX5_init_43 (fun H locs at0 hz_20 o_19 hS => ?_)
  have at0 : va_at D vwCl (h0, .inr (4, [.ref (h0 + 1), .ref (h0 + 2), .ref (h0 + 3), .int 0, .long 0, .int 0, .int 0, .int 0, .int 0, .long 0])) H := at0
  replace hz : H.size = h0 + 4 := hz_20.trans hz
  replace at_1 := va_at.keptP (b := h0) (j := 0) 1 at_1 o_19 rfl
  replace at_5 := va_at.keptP (b := h0) (j := 0) 2 at_5 o_19 rfl
  replace at_9 := va_at.keptP (b := h0) (j := 0) 3 at_9 o_19 rfl
  clear o_19 hz_20
  refine lv_aload_n hx hb dX5_init_46 rfl (lv_at hl 0 rfl) ?_
  refine lv_iconst (v := 0) hx hb dX5_init_47 (by decide) ?_
  refine nw_put (D := D) (ci := 4) (v := .int 0) (ty := .int) (C := RX5) (T := TX5) (N := 10) hx hb hts in5 tyX5 tyX5_ok nmX5 hown hK hS (Nat.le_refl _) at0 rfl 7 (by decide) (hts (.fieldLink RX5 39 "RiverModel$Search" "gauge" "I") (List.mem_of_getElem? (i := 13) rfl)) (fun _ h9 => h9) rfl (by decide +kernel) rfl rfl (Nat.le_of_ble_eq_true rfl) dX5_init_48 (fun H locs at0 hz_22 o_21 hS => ?_)
  have at0 : va_at D vwCl (h0, .inr (4, [.ref (h0 + 1), .ref (h0 + 2), .ref (h0 + 3), .int 0, .long 0, .int 0, .int 0, .int 0, .int 0, .long 0])) H := at0
  replace hz : H.size = h0 + 4 := hz_22.trans hz
  replace at_1 := va_at.keptP (b := h0) (j := 0) 1 at_1 o_21 rfl
  replace at_5 := va_at.keptP (b := h0) (j := 0) 2 at_5 o_21 rfl
  replace at_9 := va_at.keptP (b := h0) (j := 0) 3 at_9 o_21 rfl
  clear o_21 hz_22
  refine lv_aload_n hx hb dX5_init_51 rfl (lv_at hl 0 rfl) ?_
  refine lv_iconst (v := 0) hx hb dX5_init_52 (by decide) ?_
  refine lv_pc (pc2 := 53) rfl ?_
  refine nw_put (D := D) (ci := 4) (v := .int 0) (ty := .int) (C := RX5) (T := TX5) (N := 10) hx hb hts in5 tyX5 tyX5_ok nmX5 hown hK hS (Nat.le_refl _) at0 rfl 8 (by decide) (hts (.fieldLink RX5 42 "RiverModel$Search" "store" "I") (List.mem_of_getElem? (i := 14) rfl)) (fun _ h9 => h9) rfl (by decide +kernel) rfl rfl (Nat.le_of_ble_eq_true rfl) dX5_init_53 (fun H locs at0 hz_24 o_23 hS => ?_)
  have at0 : va_at D vwCl (h0, .inr (4, [.ref (h0 + 1), .ref (h0 + 2), .ref (h0 + 3), .int 0, .long 0, .int 0, .int 0, .int 0, .int 0, .long 0])) H := at0
  replace hz : H.size = h0 + 4 := hz_24.trans hz
  replace at_1 := va_at.keptP (b := h0) (j := 0) 1 at_1 o_23 rfl
  replace at_5 := va_at.keptP (b := h0) (j := 0) 2 at_5 o_23 rfl
  replace at_9 := va_at.keptP (b := h0) (j := 0) 3 at_9 o_23 rfl
  clear o_23 hz_24
  refine lv_aload_n hx hb dX5_init_56 rfl (lv_at hl 0 rfl) ?_
  refine lv_lconst (v := 0) hx hb dX5_init_57 (by decide) ?_
  refine nw_put (D := D) (ci := 4) (v := .long 0) (ty := .long) (C := RX5) (T := TX5) (N := 10) hx hb hts in5 tyX5 tyX5_ok nmX5 hown hK hS (Nat.le_refl _) at0 rfl 9 (by decide) (hts (.fieldLink RX5 45 "RiverModel$Search" "limit" "J") (List.mem_of_getElem? (i := 15) rfl)) (fun _ h9 => h9) rfl (by decide +kernel) rfl rfl (Nat.le_of_ble_eq_true rfl) dX5_init_58 (fun H locs at0 hz_26 o_25 hS => ?_)
  have at0 : va_at D vwCl (h0, .inr (4, [.ref (h0 + 1), .ref (h0 + 2), .ref (h0 + 3), .int 0, .long 0, .int 0, .int 0, .int 0, .int 0, .long 0])) H := at0
  replace hz : H.size = h0 + 4 := hz_26.trans hz
  replace at_1 := va_at.keptP (b := h0) (j := 0) 1 at_1 o_25 rfl
  replace at_5 := va_at.keptP (b := h0) (j := 0) 2 at_5 o_25 rfl
  replace at_9 := va_at.keptP (b := h0) (j := 0) 3 at_9 o_25 rfl
  clear o_25 hz_26
  refine lv_iconst (v := 0) hx hb dX5_init_61 (by decide) ?_
  refine lv_istore_n (lv' := [(1, .int 0), (0, .ref h0)]) hx hb dX5_init_62 rfl hl (by decide) rfl (fun ls hl => ?_)
  refine lv_iload_n hx hb dX5_init_63 rfl (lv_at hl 0 rfl) ?_
  refine lv_iconst (v := 4) hx hb dX5_init_64 (by decide) ?_
  refine lv_pc (pc2 := 65) rfl ?_
  refine lv_icmp_ge (tgt := 87) hx hb dX5_init_65 (by decide) (fun q => absurd q (by decide)) (fun _ => ?_)
  refine lv_aload_n hx hb dX5_init_68 rfl (lv_at hl 1 rfl) ?_
  refine va_get (D := D) (ci := 4) (v := .ref (h0 + 1)) (C := RX5) (T := TX5) (N := 10) hx hb hts in5 hown hK (va_one at0) 0 rfl rfl 0 (by decide) (hts (.fieldLink RX5 11 "RiverModel$Search" "blockEnds" "[LRiverModel$Course;") (List.mem_of_getElem? (i := 5) rfl)) (fun _ h9 => h9) rfl dX5_init_69 ?_
  refine lv_iload_n hx hb dX5_init_72 rfl (lv_at hl 0 rfl) ?_
  refine nw_new (ci := 0) (fs := [.null, .null, .null, .null, .long 0, .long 0, .long 0, .int 0]) (C := RX0) (T := TX0) (N := 8) (z := h0 + 4) hx hb hts in0 tyX0 tyX0_ok hown (hts (.classLink RX5 9 RX0) (List.mem_of_getElem? (i := 4) rfl)) (hts (.instantiable RX0 8) (List.mem_of_getElem? (i := 16) rfl)) (hts (.initialized RX0) (List.mem_of_getElem? (i := 17) rfl)) hK rfl df_X0 hS hz (Nat.le_add_right _ _) (Nat.le_of_ble_eq_true rfl) (Nat.le_of_ble_eq_true rfl) dX5_init_73 (fun H at_27 hz o_28 hS => ?_)
  replace at0 := va_at.keptA (b := h0) (z := 4) 0 at0 o_28 (Nat.le_of_ble_eq_true rfl)
  replace at_1 := va_at.keptA (b := h0) (z := 4) 1 at_1 o_28 (Nat.le_of_ble_eq_true rfl)
  replace at_5 := va_at.keptA (b := h0) (z := 4) 2 at_5 o_28 (Nat.le_of_ble_eq_true rfl)
  replace at_9 := va_at.keptA (b := h0) (z := 4) 3 at_9 o_28 (Nat.le_of_ble_eq_true rfl)
  clear o_28
  have hz : H.size = h0 + 5 := hz
  refine lv_dup hx hb dX5_init_76 rfl ?_
  refine nw_call (z := h0 + 4) (tRun (va_runIN (As := []) (rest := [.ref (h0 + 4), .int 0, .ref (h0 + 1)]) ⟨hx, hb, hml, hown, hts⟩ (cc_X0 l D cI cL cC gR (h0 + 4)) ⟨va_cnB 0 hts gX5_init_X0_init_n48 rfl rfl rfl (hE.2.1 _ (List.mem_of_getElem? (i := 5) rfl)) (hts (.initialized RX0) (List.mem_of_getElem? (i := 17) rfl)) (by decide +kernel) ⟨Nat.le_of_ble_eq_true rfl, Nat.le_of_ble_eq_true rfl⟩, rfl, (hts (.instanceMethod yX0_init) (List.mem_of_getElem? (i := 18) rfl))⟩ (cP_I hz at_27 hE) rfl rfl hl.1 rfl (lv_room (Nat.le_of_ble_eq_true rfl)) dX5_init_77 ⟨Nat.le_of_ble_eq_true rfl, Nat.le_of_ble_eq_true rfl⟩)) hS hz (by decide) (Nat.le_add_right _ _) (fun H locs sg_29 hz o_30 hS => ?_)
  replace at0 := va_at.keptA (b := h0) (z := 4) 0 at0 o_30 (Nat.le_of_ble_eq_true rfl)
  replace at_1 := va_at.keptA (b := h0) (z := 4) 1 at_1 o_30 (Nat.le_of_ble_eq_true rfl)
  replace at_5 := va_at.keptA (b := h0) (z := 4) 2 at_5 o_30 (Nat.le_of_ble_eq_true rfl)
  replace at_9 := va_at.keptA (b := h0) (z := 4) 3 at_9 o_30 (Nat.le_of_ble_eq_true rfl)
  have hz : H.size = h0 + 9 := tSlen (n := 5) hz rfl
  clear o_30
  have sg_29 : tS D (fF cI cL cC 0 gR) [5, 17, 18, 19, 20] (h0 + 4) H := sg_29
  obtain ⟨e_31, at_32, h_33⟩ := sg_29 0 (by decide)
  obtain ⟨_, _, _, _, _, _, _, rfl, _, _, _, _⟩ := h_33 (tK2 [5, 17, 18, 19, 20] (h0 + 4)) (fun j _ => tK2_at _ _ _)
  refine nw_aast hx hb hK hS (Nat.le_add_right _ _) at_1 at_32 (i := 0) (q_in (by decide) (by decide)) dX5_init_80 (fun H locs at_1 hz_35 o_34 hS => ?_)
  have at_1 : va_at D vwCl (h0 + 1, .inl (cC, 4, .inr (.inr (.inr (.inr (va_up (fun _ => none) 0 (some (h0 + 4)))))))) H := at_1
  replace hz : H.size = h0 + 9 := hz_35.trans hz
  clear at_32
  replace at0 := va_at.keptP (b := h0) (j := 1) 0 at0 o_34 rfl
  replace at_5 := va_at.keptP (b := h0) (j := 1) 2 at_5 o_34 rfl
  replace at_9 := va_at.keptP (b := h0) (j := 1) 3 at_9 o_34 rfl
  replace sg_29 := tS.keptP (b := h0) (j := 1) 4 5 sg_29 rfl o_34 rfl
  clear o_34 hz_35
  refine lv_pc (pc2 := 81) rfl ?_
  refine lv_iinc (v := 1) (lv' := [(1, .int 1), (0, .ref h0)]) hx hb dX5_init_81 hl (k := 0) rfl (by decide) (by decide) rfl (fun ls hl => ?_)
  refine lv_goto (tgt := 63) hx hb dX5_init_84 (by decide) ?_
  refine lv_iload_n hx hb dX5_init_63 rfl (lv_at hl 0 rfl) ?_
  refine lv_iconst (v := 4) hx hb dX5_init_64 (by decide) ?_
  refine lv_icmp_ge (tgt := 87) hx hb dX5_init_65 (by decide) (fun q => absurd q (by decide)) (fun _ => ?_)
  refine lv_aload_n hx hb dX5_init_68 rfl (lv_at hl 1 rfl) ?_
  refine va_get (D := D) (ci := 4) (v := .ref (h0 + 1)) (C := RX5) (T := TX5) (N := 10) hx hb hts in5 hown hK (va_one at0) 0 rfl rfl 0 (by decide) (hts (.fieldLink RX5 11 "RiverModel$Search" "blockEnds" "[LRiverModel$Course;") (List.mem_of_getElem? (i := 5) rfl)) (fun _ h9 => h9) rfl dX5_init_69 ?_
  refine lv_iload_n hx hb dX5_init_72 rfl (lv_at hl 0 rfl) ?_
  refine lv_pc (pc2 := 73) rfl ?_
  refine nw_new (ci := 0) (fs := [.null, .null, .null, .null, .long 0, .long 0, .long 0, .int 0]) (C := RX0) (T := TX0) (N := 8) (z := h0 + 9) hx hb hts in0 tyX0 tyX0_ok hown (hts (.classLink RX5 9 RX0) (List.mem_of_getElem? (i := 4) rfl)) (hts (.instantiable RX0 8) (List.mem_of_getElem? (i := 16) rfl)) (hts (.initialized RX0) (List.mem_of_getElem? (i := 17) rfl)) hK rfl df_X0 hS hz (Nat.le_add_right _ _) (Nat.le_of_ble_eq_true rfl) (Nat.le_of_ble_eq_true rfl) dX5_init_73 (fun H at_36 hz o_37 hS => ?_)
  replace at0 := va_at.keptA (b := h0) (z := 9) 0 at0 o_37 (Nat.le_of_ble_eq_true rfl)
  replace at_1 := va_at.keptA (b := h0) (z := 9) 1 at_1 o_37 (Nat.le_of_ble_eq_true rfl)
  replace at_5 := va_at.keptA (b := h0) (z := 9) 2 at_5 o_37 (Nat.le_of_ble_eq_true rfl)
  replace at_9 := va_at.keptA (b := h0) (z := 9) 3 at_9 o_37 (Nat.le_of_ble_eq_true rfl)
  replace sg_29 := tS.keptA (b := h0) (z := 9) 4 5 sg_29 rfl o_37 (Nat.le_of_ble_eq_true rfl)
  clear o_37
  have hz : H.size = h0 + 10 := hz
  refine lv_dup hx hb dX5_init_76 rfl ?_
  refine nw_call (z := h0 + 9) (tRun (va_runIN (As := []) (rest := [.ref (h0 + 9), .int 1, .ref (h0 + 1)]) ⟨hx, hb, hml, hown, hts⟩ (cc_X0 l D cI cL cC gR (h0 + 9)) ⟨va_cnB 0 hts gX5_init_X0_init_n48 rfl rfl rfl (hE.2.1 _ (List.mem_of_getElem? (i := 5) rfl)) (hts (.initialized RX0) (List.mem_of_getElem? (i := 17) rfl)) (by decide +kernel) ⟨Nat.le_of_ble_eq_true rfl, Nat.le_of_ble_eq_true rfl⟩, rfl, (hts (.instanceMethod yX0_init) (List.mem_of_getElem? (i := 18) rfl))⟩ (cP_I hz at_36 hE) rfl rfl hl.1 rfl (lv_room (Nat.le_of_ble_eq_true rfl)) dX5_init_77 ⟨Nat.le_of_ble_eq_true rfl, Nat.le_of_ble_eq_true rfl⟩)) hS hz (by decide) (Nat.le_add_right _ _) (fun H locs sg_38 hz o_39 hS => ?_)
  replace at0 := va_at.keptA (b := h0) (z := 9) 0 at0 o_39 (Nat.le_of_ble_eq_true rfl)
  replace at_1 := va_at.keptA (b := h0) (z := 9) 1 at_1 o_39 (Nat.le_of_ble_eq_true rfl)
  replace at_5 := va_at.keptA (b := h0) (z := 9) 2 at_5 o_39 (Nat.le_of_ble_eq_true rfl)
  replace at_9 := va_at.keptA (b := h0) (z := 9) 3 at_9 o_39 (Nat.le_of_ble_eq_true rfl)
  replace sg_29 := tS.keptA (b := h0) (z := 9) 4 5 sg_29 rfl o_39 (Nat.le_of_ble_eq_true rfl)
  have hz : H.size = h0 + 14 := tSlen (n := 5) hz rfl
  clear o_39
  have sg_38 : tS D (fF cI cL cC 0 gR) [5, 17, 18, 19, 20] (h0 + 9) H := sg_38
  obtain ⟨e_40, at_41, h_42⟩ := sg_38 0 (by decide)
  obtain ⟨_, _, _, _, _, _, _, rfl, _, _, _, _⟩ := h_42 (tK2 [5, 17, 18, 19, 20] (h0 + 9)) (fun j _ => tK2_at _ _ _)
  refine nw_aast hx hb hK hS (Nat.le_add_right _ _) at_1 at_41 (i := 1) (q_in (by decide) (by decide)) dX5_init_80 (fun H locs at_1 hz_44 o_43 hS => ?_)
  have at_1 : va_at D vwCl (h0 + 1, .inl (cC, 4, .inr (.inr (.inr (.inr (va_up (va_up (fun _ => none) 0 (some (h0 + 4))) 1 (some (h0 + 9)))))))) H := at_1
  replace hz : H.size = h0 + 14 := hz_44.trans hz
  clear at_41
  replace at0 := va_at.keptP (b := h0) (j := 1) 0 at0 o_43 rfl
  replace at_5 := va_at.keptP (b := h0) (j := 1) 2 at_5 o_43 rfl
  replace at_9 := va_at.keptP (b := h0) (j := 1) 3 at_9 o_43 rfl
  replace sg_29 := tS.keptP (b := h0) (j := 1) 4 5 sg_29 rfl o_43 rfl
  replace sg_38 := tS.keptP (b := h0) (j := 1) 9 5 sg_38 rfl o_43 rfl
  clear o_43 hz_44
  refine lv_iinc (v := 2) (lv' := [(1, .int 2), (0, .ref h0)]) hx hb dX5_init_81 hl (k := 0) rfl (by decide) (by decide) rfl (fun ls hl => ?_)
  refine lv_goto (tgt := 63) hx hb dX5_init_84 (by decide) ?_
  refine lv_iload_n hx hb dX5_init_63 rfl (lv_at hl 0 rfl) ?_
  refine lv_iconst (v := 4) hx hb dX5_init_64 (by decide) ?_
  refine lv_pc (pc2 := 65) rfl ?_
  refine lv_icmp_ge (tgt := 87) hx hb dX5_init_65 (by decide) (fun q => absurd q (by decide)) (fun _ => ?_)
  refine lv_aload_n hx hb dX5_init_68 rfl (lv_at hl 1 rfl) ?_
  refine va_get (D := D) (ci := 4) (v := .ref (h0 + 1)) (C := RX5) (T := TX5) (N := 10) hx hb hts in5 hown hK (va_one at0) 0 rfl rfl 0 (by decide) (hts (.fieldLink RX5 11 "RiverModel$Search" "blockEnds" "[LRiverModel$Course;") (List.mem_of_getElem? (i := 5) rfl)) (fun _ h9 => h9) rfl dX5_init_69 ?_
  refine lv_iload_n hx hb dX5_init_72 rfl (lv_at hl 0 rfl) ?_
  refine nw_new (ci := 0) (fs := [.null, .null, .null, .null, .long 0, .long 0, .long 0, .int 0]) (C := RX0) (T := TX0) (N := 8) (z := h0 + 14) hx hb hts in0 tyX0 tyX0_ok hown (hts (.classLink RX5 9 RX0) (List.mem_of_getElem? (i := 4) rfl)) (hts (.instantiable RX0 8) (List.mem_of_getElem? (i := 16) rfl)) (hts (.initialized RX0) (List.mem_of_getElem? (i := 17) rfl)) hK rfl df_X0 hS hz (Nat.le_add_right _ _) (Nat.le_of_ble_eq_true rfl) (Nat.le_of_ble_eq_true rfl) dX5_init_73 (fun H at_45 hz o_46 hS => ?_)
  replace at0 := va_at.keptA (b := h0) (z := 14) 0 at0 o_46 (Nat.le_of_ble_eq_true rfl)
  replace at_1 := va_at.keptA (b := h0) (z := 14) 1 at_1 o_46 (Nat.le_of_ble_eq_true rfl)
  replace at_5 := va_at.keptA (b := h0) (z := 14) 2 at_5 o_46 (Nat.le_of_ble_eq_true rfl)
  replace at_9 := va_at.keptA (b := h0) (z := 14) 3 at_9 o_46 (Nat.le_of_ble_eq_true rfl)
  replace sg_29 := tS.keptA (b := h0) (z := 14) 4 5 sg_29 rfl o_46 (Nat.le_of_ble_eq_true rfl)
  replace sg_38 := tS.keptA (b := h0) (z := 14) 9 5 sg_38 rfl o_46 (Nat.le_of_ble_eq_true rfl)
  clear o_46
  have hz : H.size = h0 + 15 := hz
  refine lv_dup hx hb dX5_init_76 rfl ?_
  refine nw_call (z := h0 + 14) (tRun (va_runIN (As := []) (rest := [.ref (h0 + 14), .int 2, .ref (h0 + 1)]) ⟨hx, hb, hml, hown, hts⟩ (cc_X0 l D cI cL cC gR (h0 + 14)) ⟨va_cnB 0 hts gX5_init_X0_init_n48 rfl rfl rfl (hE.2.1 _ (List.mem_of_getElem? (i := 5) rfl)) (hts (.initialized RX0) (List.mem_of_getElem? (i := 17) rfl)) (by decide +kernel) ⟨Nat.le_of_ble_eq_true rfl, Nat.le_of_ble_eq_true rfl⟩, rfl, (hts (.instanceMethod yX0_init) (List.mem_of_getElem? (i := 18) rfl))⟩ (cP_I hz at_45 hE) rfl rfl hl.1 rfl (lv_room (Nat.le_of_ble_eq_true rfl)) dX5_init_77 ⟨Nat.le_of_ble_eq_true rfl, Nat.le_of_ble_eq_true rfl⟩)) hS hz (by decide) (Nat.le_add_right _ _) (fun H locs sg_47 hz o_48 hS => ?_)
  replace at0 := va_at.keptA (b := h0) (z := 14) 0 at0 o_48 (Nat.le_of_ble_eq_true rfl)
  replace at_1 := va_at.keptA (b := h0) (z := 14) 1 at_1 o_48 (Nat.le_of_ble_eq_true rfl)
  replace at_5 := va_at.keptA (b := h0) (z := 14) 2 at_5 o_48 (Nat.le_of_ble_eq_true rfl)
  replace at_9 := va_at.keptA (b := h0) (z := 14) 3 at_9 o_48 (Nat.le_of_ble_eq_true rfl)
  replace sg_29 := tS.keptA (b := h0) (z := 14) 4 5 sg_29 rfl o_48 (Nat.le_of_ble_eq_true rfl)
  replace sg_38 := tS.keptA (b := h0) (z := 14) 9 5 sg_38 rfl o_48 (Nat.le_of_ble_eq_true rfl)
  have hz : H.size = h0 + 19 := tSlen (n := 5) hz rfl
  clear o_48
  have sg_47 : tS D (fF cI cL cC 0 gR) [5, 17, 18, 19, 20] (h0 + 14) H := sg_47
  obtain ⟨e_49, at_50, h_51⟩ := sg_47 0 (by decide)
  obtain ⟨_, _, _, _, _, _, _, rfl, _, _, _, _⟩ := h_51 (tK2 [5, 17, 18, 19, 20] (h0 + 14)) (fun j _ => tK2_at _ _ _)
  refine nw_aast hx hb hK hS (Nat.le_add_right _ _) at_1 at_50 (i := 2) (q_in (by decide) (by decide)) dX5_init_80 (fun H locs at_1 hz_53 o_52 hS => ?_)
  have at_1 : va_at D vwCl (h0 + 1, .inl (cC, 4, .inr (.inr (.inr (.inr (va_up (va_up (va_up (fun _ => none) 0 (some (h0 + 4))) 1 (some (h0 + 9))) 2 (some (h0 + 14)))))))) H := at_1
  replace hz : H.size = h0 + 19 := hz_53.trans hz
  clear at_50
  replace at0 := va_at.keptP (b := h0) (j := 1) 0 at0 o_52 rfl
  replace at_5 := va_at.keptP (b := h0) (j := 1) 2 at_5 o_52 rfl
  replace at_9 := va_at.keptP (b := h0) (j := 1) 3 at_9 o_52 rfl
  replace sg_29 := tS.keptP (b := h0) (j := 1) 4 5 sg_29 rfl o_52 rfl
  replace sg_38 := tS.keptP (b := h0) (j := 1) 9 5 sg_38 rfl o_52 rfl
  replace sg_47 := tS.keptP (b := h0) (j := 1) 14 5 sg_47 rfl o_52 rfl
  clear o_52 hz_53
  refine lv_pc (pc2 := 81) rfl ?_
  refine lv_iinc (v := 3) (lv' := [(1, .int 3), (0, .ref h0)]) hx hb dX5_init_81 hl (k := 0) rfl (by decide) (by decide) rfl (fun ls hl => ?_)
  refine lv_goto (tgt := 63) hx hb dX5_init_84 (by decide) ?_
  refine lv_iload_n hx hb dX5_init_63 rfl (lv_at hl 0 rfl) ?_
  refine lv_iconst (v := 4) hx hb dX5_init_64 (by decide) ?_
  refine lv_icmp_ge (tgt := 87) hx hb dX5_init_65 (by decide) (fun q => absurd q (by decide)) (fun _ => ?_)
  refine lv_aload_n hx hb dX5_init_68 rfl (lv_at hl 1 rfl) ?_
  refine va_get (D := D) (ci := 4) (v := .ref (h0 + 1)) (C := RX5) (T := TX5) (N := 10) hx hb hts in5 hown hK (va_one at0) 0 rfl rfl 0 (by decide) (hts (.fieldLink RX5 11 "RiverModel$Search" "blockEnds" "[LRiverModel$Course;") (List.mem_of_getElem? (i := 5) rfl)) (fun _ h9 => h9) rfl dX5_init_69 ?_
  refine lv_iload_n hx hb dX5_init_72 rfl (lv_at hl 0 rfl) ?_
  refine lv_pc (pc2 := 73) rfl ?_
  refine nw_new (ci := 0) (fs := [.null, .null, .null, .null, .long 0, .long 0, .long 0, .int 0]) (C := RX0) (T := TX0) (N := 8) (z := h0 + 19) hx hb hts in0 tyX0 tyX0_ok hown (hts (.classLink RX5 9 RX0) (List.mem_of_getElem? (i := 4) rfl)) (hts (.instantiable RX0 8) (List.mem_of_getElem? (i := 16) rfl)) (hts (.initialized RX0) (List.mem_of_getElem? (i := 17) rfl)) hK rfl df_X0 hS hz (Nat.le_add_right _ _) (Nat.le_of_ble_eq_true rfl) (Nat.le_of_ble_eq_true rfl) dX5_init_73 (fun H at_54 hz o_55 hS => ?_)
  replace at0 := va_at.keptA (b := h0) (z := 19) 0 at0 o_55 (Nat.le_of_ble_eq_true rfl)
  replace at_1 := va_at.keptA (b := h0) (z := 19) 1 at_1 o_55 (Nat.le_of_ble_eq_true rfl)
  replace at_5 := va_at.keptA (b := h0) (z := 19) 2 at_5 o_55 (Nat.le_of_ble_eq_true rfl)
  replace at_9 := va_at.keptA (b := h0) (z := 19) 3 at_9 o_55 (Nat.le_of_ble_eq_true rfl)
  replace sg_29 := tS.keptA (b := h0) (z := 19) 4 5 sg_29 rfl o_55 (Nat.le_of_ble_eq_true rfl)
  replace sg_38 := tS.keptA (b := h0) (z := 19) 9 5 sg_38 rfl o_55 (Nat.le_of_ble_eq_true rfl)
  replace sg_47 := tS.keptA (b := h0) (z := 19) 14 5 sg_47 rfl o_55 (Nat.le_of_ble_eq_true rfl)
  clear o_55
  have hz : H.size = h0 + 20 := hz
  refine lv_dup hx hb dX5_init_76 rfl ?_
  refine nw_call (z := h0 + 19) (tRun (va_runIN (As := []) (rest := [.ref (h0 + 19), .int 3, .ref (h0 + 1)]) ⟨hx, hb, hml, hown, hts⟩ (cc_X0 l D cI cL cC gR (h0 + 19)) ⟨va_cnB 0 hts gX5_init_X0_init_n48 rfl rfl rfl (hE.2.1 _ (List.mem_of_getElem? (i := 5) rfl)) (hts (.initialized RX0) (List.mem_of_getElem? (i := 17) rfl)) (by decide +kernel) ⟨Nat.le_of_ble_eq_true rfl, Nat.le_of_ble_eq_true rfl⟩, rfl, (hts (.instanceMethod yX0_init) (List.mem_of_getElem? (i := 18) rfl))⟩ (cP_I hz at_54 hE) rfl rfl hl.1 rfl (lv_room (Nat.le_of_ble_eq_true rfl)) dX5_init_77 ⟨Nat.le_of_ble_eq_true rfl, Nat.le_of_ble_eq_true rfl⟩)) hS hz (by decide) (Nat.le_add_right _ _) (fun H locs sg_56 hz o_57 hS => ?_)
  replace at0 := va_at.keptA (b := h0) (z := 19) 0 at0 o_57 (Nat.le_of_ble_eq_true rfl)
  replace at_1 := va_at.keptA (b := h0) (z := 19) 1 at_1 o_57 (Nat.le_of_ble_eq_true rfl)
  replace at_5 := va_at.keptA (b := h0) (z := 19) 2 at_5 o_57 (Nat.le_of_ble_eq_true rfl)
  replace at_9 := va_at.keptA (b := h0) (z := 19) 3 at_9 o_57 (Nat.le_of_ble_eq_true rfl)
  replace sg_29 := tS.keptA (b := h0) (z := 19) 4 5 sg_29 rfl o_57 (Nat.le_of_ble_eq_true rfl)
  replace sg_38 := tS.keptA (b := h0) (z := 19) 9 5 sg_38 rfl o_57 (Nat.le_of_ble_eq_true rfl)
  replace sg_47 := tS.keptA (b := h0) (z := 19) 14 5 sg_47 rfl o_57 (Nat.le_of_ble_eq_true rfl)
  have hz : H.size = h0 + 24 := tSlen (n := 5) hz rfl
  clear o_57
  have sg_56 : tS D (fF cI cL cC 0 gR) [5, 17, 18, 19, 20] (h0 + 19) H := sg_56
  obtain ⟨e_58, at_59, h_60⟩ := sg_56 0 (by decide)
  obtain ⟨_, _, _, _, _, _, _, rfl, _, _, _, _⟩ := h_60 (tK2 [5, 17, 18, 19, 20] (h0 + 19)) (fun j _ => tK2_at _ _ _)
  refine nw_aast hx hb hK hS (Nat.le_add_right _ _) at_1 at_59 (i := 3) (q_in (by decide) (by decide)) dX5_init_80 (fun H locs at_1 hz_62 o_61 hS => ?_)
  have at_1 : va_at D vwCl (h0 + 1, .inl (cC, 4, .inr (.inr (.inr (.inr (va_up (va_up (va_up (va_up (fun _ => none) 0 (some (h0 + 4))) 1 (some (h0 + 9))) 2 (some (h0 + 14))) 3 (some (h0 + 19)))))))) H := at_1
  replace hz : H.size = h0 + 24 := hz_62.trans hz
  clear at_59
  replace at0 := va_at.keptP (b := h0) (j := 1) 0 at0 o_61 rfl
  replace at_5 := va_at.keptP (b := h0) (j := 1) 2 at_5 o_61 rfl
  replace at_9 := va_at.keptP (b := h0) (j := 1) 3 at_9 o_61 rfl
  replace sg_29 := tS.keptP (b := h0) (j := 1) 4 5 sg_29 rfl o_61 rfl
  replace sg_38 := tS.keptP (b := h0) (j := 1) 9 5 sg_38 rfl o_61 rfl
  replace sg_47 := tS.keptP (b := h0) (j := 1) 14 5 sg_47 rfl o_61 rfl
  replace sg_56 := tS.keptP (b := h0) (j := 1) 19 5 sg_56 rfl o_61 rfl
  clear o_61 hz_62
  refine lv_iinc (v := 4) (lv' := [(1, .int 4), (0, .ref h0)]) hx hb dX5_init_81 hl (k := 0) rfl (by decide) (by decide) rfl (fun ls hl => ?_)
  refine lv_goto (tgt := 63) hx hb dX5_init_84 (by decide) ?_
  refine lv_iload_n hx hb dX5_init_63 rfl (lv_at hl 0 rfl) ?_
  refine lv_iconst (v := 4) hx hb dX5_init_64 (by decide) ?_
  refine lv_pc (pc2 := 65) rfl ?_
  refine lv_icmp_ge (tgt := 87) hx hb dX5_init_65 (by decide) (fun _ => ?_) (fun q => absurd (by decide) q)
  have sg_64 : tS D (fF cI cL cC 0 gR) [33] (h0 + 2) H := tS.one at_5 (fun t => ⟨_, rfl⟩)
  have sg_65 : tS D (fF cI cL cC 0 gR) [34] (h0 + 3) H := tS.one at_9 (fun t => ⟨_, rfl⟩)
  have sj_66 : tS D (fF cI cL cC 0 gR) [5, 17, 18, 19, 20, 5, 17, 18, 19, 20] (h0 + 14) H := tS.app3 5 sg_47 sg_56 rfl rfl
  have sj_67 : tS D (fF cI cL cC 0 gR) [5, 17, 18, 19, 20, 5, 17, 18, 19, 20, 5, 17, 18, 19, 20] (h0 + 9) H := tS.app3 5 sg_38 sj_66 rfl rfl
  have sj_68 : tS D (fF cI cL cC 0 gR) [5, 17, 18, 19, 20, 5, 17, 18, 19, 20, 5, 17, 18, 19, 20, 5, 17, 18, 19, 20] (h0 + 4) H := tS.app3 5 sg_29 sj_67 rfl rfl
  have sj_69 : tS D (fF cI cL cC 0 gR) [34, 5, 17, 18, 19, 20, 5, 17, 18, 19, 20, 5, 17, 18, 19, 20, 5, 17, 18, 19, 20] (h0 + 3) H := tS.app3 1 sg_65 sj_68 rfl rfl
  have sj_70 : tS D (fF cI cL cC 0 gR) [33, 34, 5, 17, 18, 19, 20, 5, 17, 18, 19, 20, 5, 17, 18, 19, 20, 5, 17, 18, 19, 20] (h0 + 2) H := tS.app3 1 sg_64 sj_69 rfl rfl
  have sj_71 : tS D (fF cI cL cC 0 gR) [32, 33, 34, 5, 17, 18, 19, 20, 5, 17, 18, 19, 20, 5, 17, 18, 19, 20, 5, 17, 18, 19, 20] (h0 + 1) H := by
    refine tS.cons at_1 sj_70 (fun t h1 ht => ⟨_, rfl, fun j hj => ?_⟩)
    rcases lt4 hj with rfl | rfl | rfl | rfl
    · exact ⟨h0 + 4, rfl, ht 2 (by decide)⟩
    · exact ⟨h0 + 9, rfl, ht 7 (by decide)⟩
    · exact ⟨h0 + 14, rfl, ht 12 (by decide)⟩
    · exact ⟨h0 + 19, rfl, ht 17 (by decide)⟩
  have hT : tS D (fF cI cL cC 0 gR) [32, 33, 34, 5, 17, 18, 19, 20, 5, 17, 18, 19, 20, 5, 17, 18, 19, 20, 5, 17, 18, 19, 20] (h0 + 1) H := sj_71
  have hT : tS D (fF cI cL cC 0 gR) [9, 32, 33, 34, 5, 17, 18, 19, 20, 5, 17, 18, 19, 20, 5, 17, 18, 19, 20, 5, 17, 18, 19, 20] h0 H := tS.cons at0 hT (fun t h1 ht => ⟨h0 + 1, h0 + 2, h0 + 3, 0, 0, 0, 0, 0, 0, 0, rfl, (ht 0 (by decide)), (ht 1 (by decide)), (ht 2 (by decide))⟩)
  exact W.vret hx hb hr (fun u hu _ => ⟨rfl, by rw [hu]; exact hT, by rw [hu, hz]; rfl, by rw [hu]; exact hS.2.1⟩) hS.2.2 dX5_init_87 hlk
end
section
set_option maxRecDepth 20000 in
theorem ggX9_init_X7_init : GoodIn wsX9_init wsX7_init := goodIn_r _ [48, 49, 2, 3, 21, 50, 51, 52, 53, 123, 124, 125, 126] (by decide +kernel) (by decide +kernel)
set_option maxRecDepth 20000 in
theorem gX9_init_X7_init_n9 : GoodIn wsX9_init (wsX7_init) := ggX9_init_X7_init
set_option maxRecDepth 20000 in
theorem ggX9_init_X4_init : GoodIn wsX9_init wsX4_init := goodIn_r _ [55, 56, 2, 3, 21, 57, 58, 59, 60, 61, 62, 145, 146, 147, 148, 149, 150] (by decide +kernel) (by decide +kernel)
set_option maxRecDepth 20000 in
theorem gX9_init_X4_init_n18 : GoodIn wsX9_init (wsX4_init) := ggX9_init_X4_init
set_option maxRecDepth 20000 in
theorem ggX9_init_X6_init : GoodIn wsX9_init wsX6_init := goodIn_r _ [65, 66, 2, 3, 21, 67, 68, 69, 70, 71, 72, 151, 152] (by decide +kernel) (by decide +kernel)
set_option maxRecDepth 20000 in
theorem gX9_init_X6_init : GoodIn wsX9_init (wsX6_init) := ggX9_init_X6_init
set_option maxRecDepth 20000 in
theorem ggX9_init_X0_init : GoodIn wsX9_init wsX0_init := goodIn_r _ [74, 75, 2, 3, 76, 77, 78, 21, 79, 80, 81, 82, 83, 84, 153, 154, 155, 156, 157, 158, 159, 160] (by decide +kernel) (by decide +kernel)
set_option maxRecDepth 20000 in
theorem gX9_init_X0_init_n52 : GoodIn wsX9_init (wsX0_init) := ggX9_init_X0_init
set_option maxRecDepth 20000 in
theorem ggX9_init_X1_init : GoodIn wsX9_init wsX1_init := goodIn_r _ [87, 88, 2, 3, 21, 89, 90, 91, 92, 93, 70, 71, 72, 161, 162, 163, 164] (by decide +kernel) (by decide +kernel)
set_option maxRecDepth 20000 in
theorem gX9_init_X1_init : GoodIn wsX9_init (wsX1_init) := ggX9_init_X1_init
set_option maxRecDepth 20000 in
theorem ggX9_init_X3_init : GoodIn wsX9_init wsX3_init := goodIn_r _ [95, 96, 2, 3, 21, 97, 98, 99, 100, 101, 165, 166, 167, 168, 169] (by decide +kernel) (by decide +kernel)
set_option maxRecDepth 20000 in
theorem gX9_init_X3_init_n80 : GoodIn wsX9_init (wsX3_init) := ggX9_init_X3_init
set_option maxRecDepth 20000 in
theorem ggX9_init_X8_init : GoodIn wsX9_init wsX8_init := goodIn_r _ [103, 104, 2, 3, 21, 105, 106, 107, 170, 171, 172] (by decide +kernel) (by decide +kernel)
set_option maxRecDepth 20000 in
theorem gX9_init_X8_init_n87 : GoodIn wsX9_init (wsX8_init) := ggX9_init_X8_init
set_option maxRecDepth 20000 in
theorem ggX9_init_X5_init : GoodIn wsX9_init wsX5_init := goodIn_r _ [110, 111, 2, 3, 112, 113, 21, 114, 115, 116, 117, 118, 119, 120, 121, 122, 24, 25, 73, 74, 75, 76, 77, 78, 79, 80, 81, 82, 83, 84, 173, 174, 175, 176, 177, 178, 179, 180, 181, 182, 153, 154, 155, 156, 157, 158, 159, 160] (by decide +kernel) (by decide +kernel)
set_option maxRecDepth 20000 in
theorem gX9_init_X5_init : GoodIn wsX9_init (wsX5_init) := ggX9_init_X5_init
theorem dX9_init_0 : decode cX9_init 0 = .ok (.aload_n 0, 1) := by decide +kernel
theorem dX9_init_1 : decode cX9_init 1 = .ok (.invokespecial 1, 3) := by decide +kernel
theorem dX9_init_4 : decode cX9_init 4 = .ok (.aload_n 0, 1) := by decide +kernel
theorem dX9_init_5 : decode cX9_init 5 = .ok (.new 7, 3) := by decide +kernel
theorem dX9_init_8 : decode cX9_init 8 = .ok (.dup, 1) := by decide +kernel
theorem dX9_init_9 : decode cX9_init 9 = .ok (.invokespecial 9, 3) := by decide +kernel
theorem dX9_init_12 : decode cX9_init 12 = .ok (.putfield 10, 3) := by decide +kernel
theorem dX9_init_15 : decode cX9_init 15 = .ok (.aload_n 0, 1) := by decide +kernel
theorem dX9_init_16 : decode cX9_init 16 = .ok (.new 16, 3) := by decide +kernel
theorem dX9_init_19 : decode cX9_init 19 = .ok (.dup, 1) := by decide +kernel
theorem dX9_init_20 : decode cX9_init 20 = .ok (.invokespecial 18, 3) := by decide +kernel
theorem dX9_init_23 : decode cX9_init 23 = .ok (.putfield 19, 3) := by decide +kernel
theorem dX9_init_26 : decode cX9_init 26 = .ok (.aload_n 0, 1) := by decide +kernel
theorem dX9_init_27 : decode cX9_init 27 = .ok (.new 16, 3) := by decide +kernel
theorem dX9_init_30 : decode cX9_init 30 = .ok (.dup, 1) := by decide +kernel
theorem dX9_init_31 : decode cX9_init 31 = .ok (.invokespecial 18, 3) := by decide +kernel
theorem dX9_init_34 : decode cX9_init 34 = .ok (.putfield 23, 3) := by decide +kernel
theorem dX9_init_37 : decode cX9_init 37 = .ok (.aload_n 0, 1) := by decide +kernel
theorem dX9_init_38 : decode cX9_init 38 = .ok (.new 16, 3) := by decide +kernel
theorem dX9_init_41 : decode cX9_init 41 = .ok (.dup, 1) := by decide +kernel
theorem dX9_init_42 : decode cX9_init 42 = .ok (.invokespecial 18, 3) := by decide +kernel
theorem dX9_init_45 : decode cX9_init 45 = .ok (.putfield 26, 3) := by decide +kernel
theorem dX9_init_48 : decode cX9_init 48 = .ok (.aload_n 0, 1) := by decide +kernel
theorem dX9_init_49 : decode cX9_init 49 = .ok (.iconst 0, 1) := by decide +kernel
theorem dX9_init_50 : decode cX9_init 50 = .ok (.putfield 29, 3) := by decide +kernel
theorem dX9_init_53 : decode cX9_init 53 = .ok (.aload_n 0, 1) := by decide +kernel
theorem dX9_init_54 : decode cX9_init 54 = .ok (.iconst 0, 1) := by decide +kernel
theorem dX9_init_55 : decode cX9_init 55 = .ok (.putfield 33, 3) := by decide +kernel
theorem dX9_init_58 : decode cX9_init 58 = .ok (.aload_n 0, 1) := by decide +kernel
theorem dX9_init_59 : decode cX9_init 59 = .ok (.new 36, 3) := by decide +kernel
theorem dX9_init_62 : decode cX9_init 62 = .ok (.dup, 1) := by decide +kernel
theorem dX9_init_63 : decode cX9_init 63 = .ok (.invokespecial 38, 3) := by decide +kernel
theorem dX9_init_66 : decode cX9_init 66 = .ok (.putfield 39, 3) := by decide +kernel
theorem dX9_init_69 : decode cX9_init 69 = .ok (.aload_n 0, 1) := by decide +kernel
theorem dX9_init_70 : decode cX9_init 70 = .ok (.new 36, 3) := by decide +kernel
theorem dX9_init_73 : decode cX9_init 73 = .ok (.dup, 1) := by decide +kernel
theorem dX9_init_74 : decode cX9_init 74 = .ok (.invokespecial 38, 3) := by decide +kernel
theorem dX9_init_77 : decode cX9_init 77 = .ok (.putfield 43, 3) := by decide +kernel
theorem dX9_init_80 : decode cX9_init 80 = .ok (.aload_n 0, 1) := by decide +kernel
theorem dX9_init_81 : decode cX9_init 81 = .ok (.bipush 16, 2) := by decide +kernel
theorem dX9_init_83 : decode cX9_init 83 = .ok (.newarray .int, 2) := by decide +kernel
theorem dX9_init_85 : decode cX9_init 85 = .ok (.putfield 46, 3) := by decide +kernel
theorem dX9_init_88 : decode cX9_init 88 = .ok (.aload_n 0, 1) := by decide +kernel
theorem dX9_init_89 : decode cX9_init 89 = .ok (.new 50, 3) := by decide +kernel
theorem dX9_init_92 : decode cX9_init 92 = .ok (.dup, 1) := by decide +kernel
theorem dX9_init_93 : decode cX9_init 93 = .ok (.invokespecial 52, 3) := by decide +kernel
theorem dX9_init_96 : decode cX9_init 96 = .ok (.putfield 53, 3) := by decide +kernel
theorem dX9_init_99 : decode cX9_init 99 = .ok (.aload_n 0, 1) := by decide +kernel
theorem dX9_init_100 : decode cX9_init 100 = .ok (.new 50, 3) := by decide +kernel
theorem dX9_init_103 : decode cX9_init 103 = .ok (.dup, 1) := by decide +kernel
theorem dX9_init_104 : decode cX9_init 104 = .ok (.invokespecial 52, 3) := by decide +kernel
theorem dX9_init_107 : decode cX9_init 107 = .ok (.putfield 57, 3) := by decide +kernel
theorem dX9_init_110 : decode cX9_init 110 = .ok (.aload_n 0, 1) := by decide +kernel
theorem dX9_init_111 : decode cX9_init 111 = .ok (.new 50, 3) := by decide +kernel
theorem dX9_init_114 : decode cX9_init 114 = .ok (.dup, 1) := by decide +kernel
theorem dX9_init_115 : decode cX9_init 115 = .ok (.invokespecial 52, 3) := by decide +kernel
theorem dX9_init_118 : decode cX9_init 118 = .ok (.putfield 60, 3) := by decide +kernel
theorem dX9_init_121 : decode cX9_init 121 = .ok (.aload_n 0, 1) := by decide +kernel
theorem dX9_init_122 : decode cX9_init 122 = .ok (.iconst 3, 1) := by decide +kernel
theorem dX9_init_123 : decode cX9_init 123 = .ok (.anewarray 50, 3) := by decide +kernel
theorem dX9_init_126 : decode cX9_init 126 = .ok (.putfield 63, 3) := by decide +kernel
theorem dX9_init_129 : decode cX9_init 129 = .ok (.aload_n 0, 1) := by decide +kernel
theorem dX9_init_130 : decode cX9_init 130 = .ok (.iconst 0, 1) := by decide +kernel
theorem dX9_init_131 : decode cX9_init 131 = .ok (.putfield 67, 3) := by decide +kernel
theorem dX9_init_134 : decode cX9_init 134 = .ok (.aload_n 0, 1) := by decide +kernel
theorem dX9_init_135 : decode cX9_init 135 = .ok (.new 71, 3) := by decide +kernel
theorem dX9_init_138 : decode cX9_init 138 = .ok (.dup, 1) := by decide +kernel
theorem dX9_init_139 : decode cX9_init 139 = .ok (.invokespecial 73, 3) := by decide +kernel
theorem dX9_init_142 : decode cX9_init 142 = .ok (.putfield 74, 3) := by decide +kernel
theorem dX9_init_145 : decode cX9_init 145 = .ok (.aload_n 0, 1) := by decide +kernel
theorem dX9_init_146 : decode cX9_init 146 = .ok (.new 78, 3) := by decide +kernel
theorem dX9_init_149 : decode cX9_init 149 = .ok (.dup, 1) := by decide +kernel
theorem dX9_init_150 : decode cX9_init 150 = .ok (.invokespecial 80, 3) := by decide +kernel
theorem dX9_init_153 : decode cX9_init 153 = .ok (.putfield 81, 3) := by decide +kernel
theorem dX9_init_156 : decode cX9_init 156 = .ok (.aload_n 0, 1) := by decide +kernel
theorem dX9_init_157 : decode cX9_init 157 = .ok (.new 85, 3) := by decide +kernel
theorem dX9_init_160 : decode cX9_init 160 = .ok (.dup, 1) := by decide +kernel
theorem dX9_init_161 : decode cX9_init 161 = .ok (.invokespecial 87, 3) := by decide +kernel
theorem dX9_init_164 : decode cX9_init 164 = .ok (.putfield 88, 3) := by decide +kernel
theorem dX9_init_167 : decode cX9_init 167 = .ok (.aload_n 0, 1) := by decide +kernel
theorem dX9_init_168 : decode cX9_init 168 = .ok (.new 92, 3) := by decide +kernel
theorem dX9_init_171 : decode cX9_init 171 = .ok (.dup, 1) := by decide +kernel
theorem dX9_init_172 : decode cX9_init 172 = .ok (.invokespecial 94, 3) := by decide +kernel
theorem dX9_init_175 : decode cX9_init 175 = .ok (.putfield 95, 3) := by decide +kernel
theorem dX9_init_178 : decode cX9_init 178 = .ok (.iconst 0, 1) := by decide +kernel
theorem dX9_init_179 : decode cX9_init 179 = .ok (.istore_n 1, 1) := by decide +kernel
theorem dX9_init_180 : decode cX9_init 180 = .ok (.iload_n 1, 1) := by decide +kernel
theorem dX9_init_181 : decode cX9_init 181 = .ok (.iconst 3, 1) := by decide +kernel
theorem dX9_init_182 : decode cX9_init 182 = .ok (.if_icmp .ge 22, 3) := by decide +kernel
theorem dX9_init_185 : decode cX9_init 185 = .ok (.aload_n 0, 1) := by decide +kernel
theorem dX9_init_186 : decode cX9_init 186 = .ok (.getfield 63, 3) := by decide +kernel
theorem dX9_init_189 : decode cX9_init 189 = .ok (.iload_n 1, 1) := by decide +kernel
theorem dX9_init_190 : decode cX9_init 190 = .ok (.new 50, 3) := by decide +kernel
theorem dX9_init_193 : decode cX9_init 193 = .ok (.dup, 1) := by decide +kernel
theorem dX9_init_194 : decode cX9_init 194 = .ok (.invokespecial 52, 3) := by decide +kernel
theorem dX9_init_197 : decode cX9_init 197 = .ok (.aastore, 1) := by decide +kernel
theorem dX9_init_198 : decode cX9_init 198 = .ok (.iinc 1 1, 3) := by decide +kernel
theorem dX9_init_201 : decode cX9_init 201 = .ok (.goto (-21), 3) := by decide +kernel
theorem dX9_init_204 : decode cX9_init 204 = .ok (.return_, 1) := by decide +kernel
set_option maxHeartbeats 4000000 in
set_option maxRecDepth 100000 in
theorem cc_X9 (l : Launch) (D : va_G) (cI cL cC : ClassId) (gR : Int32) (h0 : Nat) : Met l yX9_init wsX9_init ({ frames := 3, cells := 91, slots := 4915, locals := 53 }) (cP D cI cL cC 8 [.null, .null, .null, .null, .int 0, .int 0, .null, .null, .null, .null, .null, .null, .null, .int 0, .null, .null, .null, .null] h0) (cQ D (fF cI cL cC 0 gR) [1, 2, 10, 11, 3, 12, 13, 14, 3, 12, 13, 14, 3, 12, 13, 14, 4, 15, 16, 4, 15, 16, 35, 5, 17, 18, 19, 20, 5, 17, 18, 19, 20, 5, 17, 18, 19, 20, 36, 6, 21, 22, 23, 7, 24, 25, 26, 27, 28, 8, 29, 30, 31, 9, 32, 33, 34, 5, 17, 18, 19, 20, 5, 17, 18, 19, 20, 5, 17, 18, 19, 20, 5, 17, 18, 19, 20, 5, 17, 18, 19, 20, 5, 17, 18, 19, 20, 5, 17, 18, 19, 20] h0) 91 4915 (fun q => h0 ≤ q) := by
  refine cM_ofW (cc := cX9_init) (maxL := 2) (by decide) rfl rfl (by decide) ?_
  intro p e s m below meth c hx hb hr hml hown hts hlk hin hz at0 hK hE hS ls hl
  have hl : lv_has ls 2 [(0, .ref h0)] := hl
  have in7 : ∀ w ∈ wsX70, w ∈ wsX9_init := fun w h => List.mem_cons_of_mem _ (List.mem_append_left _ (List.mem_append_left _ (List.mem_append_left _ (List.mem_append_left _ (List.mem_append_left _ (List.mem_append_left _ (List.mem_append_left _ (List.mem_append_left _ (List.mem_append_right _ h)))))))))
  have in9 : ∀ w ∈ wsX90, w ∈ wsX9_init := fun w h => List.mem_cons_of_mem _ (List.mem_append_left _ (List.mem_append_left _ (List.mem_append_left _ (List.mem_append_left _ (List.mem_append_left _ (List.mem_append_left _ (List.mem_append_left _ (List.mem_append_right _ h))))))))
  have in4 : ∀ w ∈ wsX40, w ∈ wsX9_init := fun w h => List.mem_cons_of_mem _ (List.mem_append_left _ (List.mem_append_left _ (List.mem_append_left _ (List.mem_append_left _ (List.mem_append_left _ (List.mem_append_left _ (List.mem_append_right _ h)))))))
  have in6 : ∀ w ∈ wsX60, w ∈ wsX9_init := fun w h => List.mem_cons_of_mem _ (List.mem_append_left _ (List.mem_append_left _ (List.mem_append_left _ (List.mem_append_left _ (List.mem_append_left _ (List.mem_append_right _ h))))))
  have in0 : ∀ w ∈ wsX00, w ∈ wsX9_init := fun w h => List.mem_cons_of_mem _ (List.mem_append_left _ (List.mem_append_left _ (List.mem_append_left _ (List.mem_append_left _ (List.mem_append_right _ h)))))
  have in1 : ∀ w ∈ wsX10, w ∈ wsX9_init := fun w h => List.mem_cons_of_mem _ (List.mem_append_left _ (List.mem_append_left _ (List.mem_append_left _ (List.mem_append_right _ h))))
  have in3 : ∀ w ∈ wsX30, w ∈ wsX9_init := fun w h => List.mem_cons_of_mem _ (List.mem_append_left _ (List.mem_append_left _ (List.mem_append_right _ h)))
  have in8 : ∀ w ∈ wsX80, w ∈ wsX9_init := fun w h => List.mem_cons_of_mem _ (List.mem_append_left _ (List.mem_append_right _ h))
  have in5 : ∀ w ∈ wsX50, w ∈ wsX9_init := fun w h => List.mem_cons_of_mem _ (List.mem_append_right _ h)
  refine lv_aload_n hx hb dX9_init_0 rfl (lv_at hl 0 rfl) ?_
  refine W.objInit hx hb hown (hts (.methodLink RX9 1 objectInit) (List.mem_of_getElem? (i := 1) rfl)) (hts (.instanceMethod objectInit) (List.mem_of_getElem? (i := 2) rfl)) (hts (.code objectInit ⟨#[0xb1]⟩ 1 none) (List.mem_of_getElem? (i := 3) rfl)) rfl (by rw [hml]; exact hl.1) rfl dX9_init_1 (Nat.le_of_ble_eq_true rfl) (Nat.le_of_ble_eq_true rfl) ?_
  refine W.eq (g2 := F0 m 4 ls []) rfl ?_
  refine lv_aload_n hx hb dX9_init_4 rfl (lv_at hl 0 rfl) ?_
  refine nw_new (ci := 6) (fs := [.null, .null, .int 0, .int 0]) (C := RX7) (T := TX7) (N := 4) (z := h0 + 1) hx hb hts in7 tyX7 tyX7_ok hown (hts (.classLink RX9 7 RX7) (List.mem_of_getElem? (i := 4) rfl)) (hts (.instantiable RX7 4) (List.mem_of_getElem? (i := 5) rfl)) (hts (.initialized RX7) (List.mem_of_getElem? (i := 6) rfl)) hK rfl df_X7 hS hz (Nat.le_add_right _ _) (Nat.le_of_ble_eq_true rfl) (Nat.le_of_ble_eq_true rfl) dX9_init_5 (fun H at_1 hz o_2 hS => ?_)
  replace at0 := va_at.keptA (b := h0) (z := 1) 0 at0 o_2 (Nat.le_of_ble_eq_true rfl)
  clear o_2
  have hz : H.size = h0 + 2 := hz
  refine lv_dup hx hb dX9_init_8 rfl ?_
  refine nw_call (z := h0 + 1) (tRun (va_runIN (As := []) (rest := [.ref (h0 + 1), .ref h0]) ⟨hx, hb, hml, hown, hts⟩ (cc_X7 l D cI cL cC gR (h0 + 1)) ⟨va_cnB 0 hts gX9_init_X7_init_n9 rfl rfl rfl (hE.2.1 _ (List.mem_of_getElem? (i := 0) rfl)) (hts (.initialized RX7) (List.mem_of_getElem? (i := 6) rfl)) (by decide +kernel) ⟨Nat.le_of_ble_eq_true rfl, Nat.le_of_ble_eq_true rfl⟩, rfl, (hts (.instanceMethod yX7_init) (List.mem_of_getElem? (i := 47) rfl))⟩ (cP_I hz at_1 hE) rfl rfl hl.1 rfl (lv_room (Nat.le_of_ble_eq_true rfl)) dX9_init_9 ⟨Nat.le_of_ble_eq_true rfl, Nat.le_of_ble_eq_true rfl⟩)) hS hz (by decide) (Nat.le_add_right _ _) (fun H locs sg_3 hz o_4 hS => ?_)
  replace at0 := va_at.keptA (b := h0) (z := 1) 0 at0 o_4 (Nat.le_of_ble_eq_true rfl)
  have hz : H.size = h0 + 4 := tSlen (n := 3) hz rfl
  clear o_4
  have sg_3 : tS D (fF cI cL cC 0 gR) [2, 10, 11] (h0 + 1) H := sg_3
  refine nw_putF (D := D) (ci := 8) (v := .ref (h0 + 1)) (ty := .object "RiverModel$Text") (C := RX9) (T := TX9) (N := 18) hx hb hts in9 tyX9 tyX9_ok nmX9 hown hK hS (Nat.le_refl _) at0 rfl 0 (by decide) (hts (.fieldLink RX9 10 "RiverModel" "text" "LRiverModel$Text;") (List.mem_of_getElem? (i := 7) rfl)) (fun _ h9 => h9) rfl hin rfl (by decide +kernel) rfl rfl (Nat.le_of_ble_eq_true rfl) dX9_init_12 (fun H locs at0 hz_6 o_5 hS => ?_)
  have at0 : va_at D vwCl (h0, .inr (8, [.ref (h0 + 1), .null, .null, .null, .int 0, .int 0, .null, .null, .null, .null, .null, .null, .null, .int 0, .null, .null, .null, .null])) H := at0
  replace hz : H.size = h0 + 4 := hz_6.trans hz
  replace sg_3 := tS.keptP (b := h0) (j := 0) 1 3 sg_3 rfl o_5 rfl
  clear o_5 hz_6
  refine lv_pc (pc2 := 15) rfl ?_
  refine lv_aload_n hx hb dX9_init_15 rfl (lv_at hl 0 rfl) ?_
  refine nw_new (ci := 3) (fs := [.null, .null, .null, .int 0, .int 0, .int 0]) (C := RX4) (T := TX4) (N := 6) (z := h0 + 4) hx hb hts in4 tyX4 tyX4_ok hown (hts (.classLink RX9 16 RX4) (List.mem_of_getElem? (i := 8) rfl)) (hts (.instantiable RX4 6) (List.mem_of_getElem? (i := 9) rfl)) (hts (.initialized RX4) (List.mem_of_getElem? (i := 10) rfl)) hK rfl df_X4 hS hz (Nat.le_add_right _ _) (Nat.le_of_ble_eq_true rfl) (Nat.le_of_ble_eq_true rfl) dX9_init_16 (fun H at_7 hz o_8 hS => ?_)
  replace at0 := va_at.keptA (b := h0) (z := 4) 0 at0 o_8 (Nat.le_of_ble_eq_true rfl)
  replace sg_3 := tS.keptA (b := h0) (z := 4) 1 3 sg_3 rfl o_8 (Nat.le_of_ble_eq_true rfl)
  clear o_8
  have hz : H.size = h0 + 5 := hz
  refine lv_dup hx hb dX9_init_19 rfl ?_
  refine nw_call (z := h0 + 4) (tRun (va_runIN (As := []) (rest := [.ref (h0 + 4), .ref h0]) ⟨hx, hb, hml, hown, hts⟩ (cc_X4 l D cI cL cC gR (h0 + 4)) ⟨va_cnB 0 hts gX9_init_X4_init_n18 rfl rfl rfl (hE.2.1 _ (List.mem_of_getElem? (i := 1) rfl)) (hts (.initialized RX4) (List.mem_of_getElem? (i := 10) rfl)) (by decide +kernel) ⟨Nat.le_of_ble_eq_true rfl, Nat.le_of_ble_eq_true rfl⟩, rfl, (hts (.instanceMethod yX4_init) (List.mem_of_getElem? (i := 54) rfl))⟩ (cP_I hz at_7 hE) rfl rfl hl.1 rfl (lv_room (Nat.le_of_ble_eq_true rfl)) dX9_init_20 ⟨Nat.le_of_ble_eq_true rfl, Nat.le_of_ble_eq_true rfl⟩)) hS hz (by decide) (Nat.le_add_right _ _) (fun H locs sg_9 hz o_10 hS => ?_)
  replace at0 := va_at.keptA (b := h0) (z := 4) 0 at0 o_10 (Nat.le_of_ble_eq_true rfl)
  replace sg_3 := tS.keptA (b := h0) (z := 4) 1 3 sg_3 rfl o_10 (Nat.le_of_ble_eq_true rfl)
  have hz : H.size = h0 + 8 := tSlen (n := 4) hz rfl
  clear o_10
  have sg_9 : tS D (fF cI cL cC 0 gR) [3, 12, 13, 14] (h0 + 4) H := sg_9
  refine nw_put (D := D) (ci := 8) (v := .ref (h0 + 4)) (ty := .object "RiverModel$Model") (C := RX9) (T := TX9) (N := 18) hx hb hts in9 tyX9 tyX9_ok nmX9 hown hK hS (Nat.le_refl _) at0 rfl 1 (by decide) (hts (.fieldLink RX9 19 "RiverModel" "model" "LRiverModel$Model;") (List.mem_of_getElem? (i := 11) rfl)) (fun _ h9 => h9) rfl (by decide +kernel) rfl rfl (Nat.le_of_ble_eq_true rfl) dX9_init_23 (fun H locs at0 hz_12 o_11 hS => ?_)
  have at0 : va_at D vwCl (h0, .inr (8, [.ref (h0 + 1), .ref (h0 + 4), .null, .null, .int 0, .int 0, .null, .null, .null, .null, .null, .null, .null, .int 0, .null, .null, .null, .null])) H := at0
  replace hz : H.size = h0 + 8 := hz_12.trans hz
  replace sg_3 := tS.keptP (b := h0) (j := 0) 1 3 sg_3 rfl o_11 rfl
  replace sg_9 := tS.keptP (b := h0) (j := 0) 4 4 sg_9 rfl o_11 rfl
  clear o_11 hz_12
  refine lv_aload_n hx hb dX9_init_26 rfl (lv_at hl 0 rfl) ?_
  refine nw_new (ci := 3) (fs := [.null, .null, .null, .int 0, .int 0, .int 0]) (C := RX4) (T := TX4) (N := 6) (z := h0 + 8) hx hb hts in4 tyX4 tyX4_ok hown (hts (.classLink RX9 16 RX4) (List.mem_of_getElem? (i := 8) rfl)) (hts (.instantiable RX4 6) (List.mem_of_getElem? (i := 9) rfl)) (hts (.initialized RX4) (List.mem_of_getElem? (i := 10) rfl)) hK rfl df_X4 hS hz (Nat.le_add_right _ _) (Nat.le_of_ble_eq_true rfl) (Nat.le_of_ble_eq_true rfl) dX9_init_27 (fun H at_13 hz o_14 hS => ?_)
  replace at0 := va_at.keptA (b := h0) (z := 8) 0 at0 o_14 (Nat.le_of_ble_eq_true rfl)
  replace sg_3 := tS.keptA (b := h0) (z := 8) 1 3 sg_3 rfl o_14 (Nat.le_of_ble_eq_true rfl)
  replace sg_9 := tS.keptA (b := h0) (z := 8) 4 4 sg_9 rfl o_14 (Nat.le_of_ble_eq_true rfl)
  clear o_14
  have hz : H.size = h0 + 9 := hz
  refine lv_dup hx hb dX9_init_30 rfl ?_
  refine lv_pc (pc2 := 31) rfl ?_
  refine nw_call (z := h0 + 8) (tRun (va_runIN (As := []) (rest := [.ref (h0 + 8), .ref h0]) ⟨hx, hb, hml, hown, hts⟩ (cc_X4 l D cI cL cC gR (h0 + 8)) ⟨va_cnB 0 hts gX9_init_X4_init_n18 rfl rfl rfl (hE.2.1 _ (List.mem_of_getElem? (i := 1) rfl)) (hts (.initialized RX4) (List.mem_of_getElem? (i := 10) rfl)) (by decide +kernel) ⟨Nat.le_of_ble_eq_true rfl, Nat.le_of_ble_eq_true rfl⟩, rfl, (hts (.instanceMethod yX4_init) (List.mem_of_getElem? (i := 54) rfl))⟩ (cP_I hz at_13 hE) rfl rfl hl.1 rfl (lv_room (Nat.le_of_ble_eq_true rfl)) dX9_init_31 ⟨Nat.le_of_ble_eq_true rfl, Nat.le_of_ble_eq_true rfl⟩)) hS hz (by decide) (Nat.le_add_right _ _) (fun H locs sg_15 hz o_16 hS => ?_)
  replace at0 := va_at.keptA (b := h0) (z := 8) 0 at0 o_16 (Nat.le_of_ble_eq_true rfl)
  replace sg_3 := tS.keptA (b := h0) (z := 8) 1 3 sg_3 rfl o_16 (Nat.le_of_ble_eq_true rfl)
  replace sg_9 := tS.keptA (b := h0) (z := 8) 4 4 sg_9 rfl o_16 (Nat.le_of_ble_eq_true rfl)
  have hz : H.size = h0 + 12 := tSlen (n := 4) hz rfl
  clear o_16
  have sg_15 : tS D (fF cI cL cC 0 gR) [3, 12, 13, 14] (h0 + 8) H := sg_15
  refine nw_put (D := D) (ci := 8) (v := .ref (h0 + 8)) (ty := .object "RiverModel$Model") (C := RX9) (T := TX9) (N := 18) hx hb hts in9 tyX9 tyX9_ok nmX9 hown hK hS (Nat.le_refl _) at0 rfl 2 (by decide) (hts (.fieldLink RX9 23 "RiverModel" "draft" "LRiverModel$Model;") (List.mem_of_getElem? (i := 12) rfl)) (fun _ h9 => h9) rfl (by decide +kernel) rfl rfl (Nat.le_of_ble_eq_true rfl) dX9_init_34 (fun H locs at0 hz_18 o_17 hS => ?_)
  have at0 : va_at D vwCl (h0, .inr (8, [.ref (h0 + 1), .ref (h0 + 4), .ref (h0 + 8), .null, .int 0, .int 0, .null, .null, .null, .null, .null, .null, .null, .int 0, .null, .null, .null, .null])) H := at0
  replace hz : H.size = h0 + 12 := hz_18.trans hz
  replace sg_3 := tS.keptP (b := h0) (j := 0) 1 3 sg_3 rfl o_17 rfl
  replace sg_9 := tS.keptP (b := h0) (j := 0) 4 4 sg_9 rfl o_17 rfl
  replace sg_15 := tS.keptP (b := h0) (j := 0) 8 4 sg_15 rfl o_17 rfl
  clear o_17 hz_18
  refine lv_aload_n hx hb dX9_init_37 rfl (lv_at hl 0 rfl) ?_
  refine nw_new (ci := 3) (fs := [.null, .null, .null, .int 0, .int 0, .int 0]) (C := RX4) (T := TX4) (N := 6) (z := h0 + 12) hx hb hts in4 tyX4 tyX4_ok hown (hts (.classLink RX9 16 RX4) (List.mem_of_getElem? (i := 8) rfl)) (hts (.instantiable RX4 6) (List.mem_of_getElem? (i := 9) rfl)) (hts (.initialized RX4) (List.mem_of_getElem? (i := 10) rfl)) hK rfl df_X4 hS hz (Nat.le_add_right _ _) (Nat.le_of_ble_eq_true rfl) (Nat.le_of_ble_eq_true rfl) dX9_init_38 (fun H at_19 hz o_20 hS => ?_)
  replace at0 := va_at.keptA (b := h0) (z := 12) 0 at0 o_20 (Nat.le_of_ble_eq_true rfl)
  replace sg_3 := tS.keptA (b := h0) (z := 12) 1 3 sg_3 rfl o_20 (Nat.le_of_ble_eq_true rfl)
  replace sg_9 := tS.keptA (b := h0) (z := 12) 4 4 sg_9 rfl o_20 (Nat.le_of_ble_eq_true rfl)
  replace sg_15 := tS.keptA (b := h0) (z := 12) 8 4 sg_15 rfl o_20 (Nat.le_of_ble_eq_true rfl)
  clear o_20
  have hz : H.size = h0 + 13 := hz
  refine lv_dup hx hb dX9_init_41 rfl ?_
  refine nw_call (z := h0 + 12) (tRun (va_runIN (As := []) (rest := [.ref (h0 + 12), .ref h0]) ⟨hx, hb, hml, hown, hts⟩ (cc_X4 l D cI cL cC gR (h0 + 12)) ⟨va_cnB 0 hts gX9_init_X4_init_n18 rfl rfl rfl (hE.2.1 _ (List.mem_of_getElem? (i := 1) rfl)) (hts (.initialized RX4) (List.mem_of_getElem? (i := 10) rfl)) (by decide +kernel) ⟨Nat.le_of_ble_eq_true rfl, Nat.le_of_ble_eq_true rfl⟩, rfl, (hts (.instanceMethod yX4_init) (List.mem_of_getElem? (i := 54) rfl))⟩ (cP_I hz at_19 hE) rfl rfl hl.1 rfl (lv_room (Nat.le_of_ble_eq_true rfl)) dX9_init_42 ⟨Nat.le_of_ble_eq_true rfl, Nat.le_of_ble_eq_true rfl⟩)) hS hz (by decide) (Nat.le_add_right _ _) (fun H locs sg_21 hz o_22 hS => ?_)
  replace at0 := va_at.keptA (b := h0) (z := 12) 0 at0 o_22 (Nat.le_of_ble_eq_true rfl)
  replace sg_3 := tS.keptA (b := h0) (z := 12) 1 3 sg_3 rfl o_22 (Nat.le_of_ble_eq_true rfl)
  replace sg_9 := tS.keptA (b := h0) (z := 12) 4 4 sg_9 rfl o_22 (Nat.le_of_ble_eq_true rfl)
  replace sg_15 := tS.keptA (b := h0) (z := 12) 8 4 sg_15 rfl o_22 (Nat.le_of_ble_eq_true rfl)
  have hz : H.size = h0 + 16 := tSlen (n := 4) hz rfl
  clear o_22
  have sg_21 : tS D (fF cI cL cC 0 gR) [3, 12, 13, 14] (h0 + 12) H := sg_21
  refine nw_putF (D := D) (ci := 8) (v := .ref (h0 + 12)) (ty := .object "RiverModel$Model") (C := RX9) (T := TX9) (N := 18) hx hb hts in9 tyX9 tyX9_ok nmX9 hown hK hS (Nat.le_refl _) at0 rfl 3 (by decide) (hts (.fieldLink RX9 26 "RiverModel" "other" "LRiverModel$Model;") (List.mem_of_getElem? (i := 13) rfl)) (fun _ h9 => h9) rfl hin rfl (by decide +kernel) rfl rfl (Nat.le_of_ble_eq_true rfl) dX9_init_45 (fun H locs at0 hz_24 o_23 hS => ?_)
  have at0 : va_at D vwCl (h0, .inr (8, [.ref (h0 + 1), .ref (h0 + 4), .ref (h0 + 8), .ref (h0 + 12), .int 0, .int 0, .null, .null, .null, .null, .null, .null, .null, .int 0, .null, .null, .null, .null])) H := at0
  replace hz : H.size = h0 + 16 := hz_24.trans hz
  replace sg_3 := tS.keptP (b := h0) (j := 0) 1 3 sg_3 rfl o_23 rfl
  replace sg_9 := tS.keptP (b := h0) (j := 0) 4 4 sg_9 rfl o_23 rfl
  replace sg_15 := tS.keptP (b := h0) (j := 0) 8 4 sg_15 rfl o_23 rfl
  replace sg_21 := tS.keptP (b := h0) (j := 0) 12 4 sg_21 rfl o_23 rfl
  clear o_23 hz_24
  refine lv_aload_n hx hb dX9_init_48 rfl (lv_at hl 0 rfl) ?_
  refine lv_pc (pc2 := 49) rfl ?_
  refine lv_iconst (v := 0) hx hb dX9_init_49 (by decide) ?_
  refine nw_put (D := D) (ci := 8) (v := .int 0) (ty := .boolean) (C := RX9) (T := TX9) (N := 18) hx hb hts in9 tyX9 tyX9_ok nmX9 hown hK hS (Nat.le_refl _) at0 rfl 4 (by decide) (hts (.fieldLink RX9 29 "RiverModel" "isBuilt" "Z") (List.mem_of_getElem? (i := 14) rfl)) (fun _ h9 => h9) rfl (by decide +kernel) (by decide) (by decide) (Nat.le_of_ble_eq_true rfl) dX9_init_50 (fun H locs at0 hz_26 o_25 hS => ?_)
  have at0 : va_at D vwCl (h0, .inr (8, [.ref (h0 + 1), .ref (h0 + 4), .ref (h0 + 8), .ref (h0 + 12), .int 0, .int 0, .null, .null, .null, .null, .null, .null, .null, .int 0, .null, .null, .null, .null])) H := at0
  replace hz : H.size = h0 + 16 := hz_26.trans hz
  replace sg_3 := tS.keptP (b := h0) (j := 0) 1 3 sg_3 rfl o_25 rfl
  replace sg_9 := tS.keptP (b := h0) (j := 0) 4 4 sg_9 rfl o_25 rfl
  replace sg_15 := tS.keptP (b := h0) (j := 0) 8 4 sg_15 rfl o_25 rfl
  replace sg_21 := tS.keptP (b := h0) (j := 0) 12 4 sg_21 rfl o_25 rfl
  clear o_25 hz_26
  refine lv_aload_n hx hb dX9_init_53 rfl (lv_at hl 0 rfl) ?_
  refine lv_iconst (v := 0) hx hb dX9_init_54 (by decide) ?_
  refine nw_put (D := D) (ci := 8) (v := .int 0) (ty := .boolean) (C := RX9) (T := TX9) (N := 18) hx hb hts in9 tyX9 tyX9_ok nmX9 hown hK hS (Nat.le_refl _) at0 rfl 5 (by decide) (hts (.fieldLink RX9 33 "RiverModel" "isOtherLaid" "Z") (List.mem_of_getElem? (i := 15) rfl)) (fun _ h9 => h9) rfl (by decide +kernel) (by decide) (by decide) (Nat.le_of_ble_eq_true rfl) dX9_init_55 (fun H locs at0 hz_28 o_27 hS => ?_)
  have at0 : va_at D vwCl (h0, .inr (8, [.ref (h0 + 1), .ref (h0 + 4), .ref (h0 + 8), .ref (h0 + 12), .int 0, .int 0, .null, .null, .null, .null, .null, .null, .null, .int 0, .null, .null, .null, .null])) H := at0
  replace hz : H.size = h0 + 16 := hz_28.trans hz
  replace sg_3 := tS.keptP (b := h0) (j := 0) 1 3 sg_3 rfl o_27 rfl
  replace sg_9 := tS.keptP (b := h0) (j := 0) 4 4 sg_9 rfl o_27 rfl
  replace sg_15 := tS.keptP (b := h0) (j := 0) 8 4 sg_15 rfl o_27 rfl
  replace sg_21 := tS.keptP (b := h0) (j := 0) 12 4 sg_21 rfl o_27 rfl
  clear o_27 hz_28
  refine lv_aload_n hx hb dX9_init_58 rfl (lv_at hl 0 rfl) ?_
  refine nw_new (ci := 5) (fs := [.null, .null]) (C := RX6) (T := TX6) (N := 2) (z := h0 + 16) hx hb hts in6 tyX6 tyX6_ok hown (hts (.classLink RX9 36 RX6) (List.mem_of_getElem? (i := 16) rfl)) (hts (.instantiable RX6 2) (List.mem_of_getElem? (i := 17) rfl)) (hts (.initialized RX6) (List.mem_of_getElem? (i := 18) rfl)) hK rfl df_X6 hS hz (Nat.le_add_right _ _) (Nat.le_of_ble_eq_true rfl) (Nat.le_of_ble_eq_true rfl) dX9_init_59 (fun H at_29 hz o_30 hS => ?_)
  replace at0 := va_at.keptA (b := h0) (z := 16) 0 at0 o_30 (Nat.le_of_ble_eq_true rfl)
  replace sg_3 := tS.keptA (b := h0) (z := 16) 1 3 sg_3 rfl o_30 (Nat.le_of_ble_eq_true rfl)
  replace sg_9 := tS.keptA (b := h0) (z := 16) 4 4 sg_9 rfl o_30 (Nat.le_of_ble_eq_true rfl)
  replace sg_15 := tS.keptA (b := h0) (z := 16) 8 4 sg_15 rfl o_30 (Nat.le_of_ble_eq_true rfl)
  replace sg_21 := tS.keptA (b := h0) (z := 16) 12 4 sg_21 rfl o_30 (Nat.le_of_ble_eq_true rfl)
  clear o_30
  have hz : H.size = h0 + 17 := hz
  refine lv_dup hx hb dX9_init_62 rfl ?_
  refine lv_pc (pc2 := 63) rfl ?_
  refine nw_call (z := h0 + 16) (tRun (va_runI (As := []) (rest := [.ref (h0 + 16), .ref h0]) ⟨hx, hb, hml, hown, hts⟩ (cc_X6 l D cI cL cC gR (h0 + 16)) (cwI 0 hts gX9_init_X6_init rfl rfl rfl (hts (.initialized RX6) (List.mem_of_getElem? (i := 18) rfl)) (hts (.methodLink RX9 38 yX6_init) (List.mem_of_getElem? (i := 63) rfl)) (hts (.instanceMethod yX6_init) (List.mem_of_getElem? (i := 64) rfl)) rfl (by decide +kernel) ⟨Nat.le_of_ble_eq_true rfl, Nat.le_of_ble_eq_true rfl⟩) (cP_I hz at_29 hE) rfl rfl hl.1 rfl (lv_room (Nat.le_of_ble_eq_true rfl)) dX9_init_63 ⟨Nat.le_of_ble_eq_true rfl, Nat.le_of_ble_eq_true rfl⟩)) hS hz (by decide) (Nat.le_add_right _ _) (fun H locs sg_31 hz o_32 hS => ?_)
  replace at0 := va_at.keptA (b := h0) (z := 16) 0 at0 o_32 (Nat.le_of_ble_eq_true rfl)
  replace sg_3 := tS.keptA (b := h0) (z := 16) 1 3 sg_3 rfl o_32 (Nat.le_of_ble_eq_true rfl)
  replace sg_9 := tS.keptA (b := h0) (z := 16) 4 4 sg_9 rfl o_32 (Nat.le_of_ble_eq_true rfl)
  replace sg_15 := tS.keptA (b := h0) (z := 16) 8 4 sg_15 rfl o_32 (Nat.le_of_ble_eq_true rfl)
  replace sg_21 := tS.keptA (b := h0) (z := 16) 12 4 sg_21 rfl o_32 (Nat.le_of_ble_eq_true rfl)
  have hz : H.size = h0 + 19 := tSlen (n := 3) hz rfl
  clear o_32
  have sg_31 : tS D (fF cI cL cC 0 gR) [4, 15, 16] (h0 + 16) H := sg_31
  refine nw_putF (D := D) (ci := 8) (v := .ref (h0 + 16)) (ty := .object "RiverModel$Sky") (C := RX9) (T := TX9) (N := 18) hx hb hts in9 tyX9 tyX9_ok nmX9 hown hK hS (Nat.le_refl _) at0 rfl 6 (by decide) (hts (.fieldLink RX9 39 "RiverModel" "skyA" "LRiverModel$Sky;") (List.mem_of_getElem? (i := 19) rfl)) (fun _ h9 => h9) rfl hin rfl (by decide +kernel) rfl rfl (Nat.le_of_ble_eq_true rfl) dX9_init_66 (fun H locs at0 hz_34 o_33 hS => ?_)
  have at0 : va_at D vwCl (h0, .inr (8, [.ref (h0 + 1), .ref (h0 + 4), .ref (h0 + 8), .ref (h0 + 12), .int 0, .int 0, .ref (h0 + 16), .null, .null, .null, .null, .null, .null, .int 0, .null, .null, .null, .null])) H := at0
  replace hz : H.size = h0 + 19 := hz_34.trans hz
  replace sg_3 := tS.keptP (b := h0) (j := 0) 1 3 sg_3 rfl o_33 rfl
  replace sg_9 := tS.keptP (b := h0) (j := 0) 4 4 sg_9 rfl o_33 rfl
  replace sg_15 := tS.keptP (b := h0) (j := 0) 8 4 sg_15 rfl o_33 rfl
  replace sg_21 := tS.keptP (b := h0) (j := 0) 12 4 sg_21 rfl o_33 rfl
  replace sg_31 := tS.keptP (b := h0) (j := 0) 16 3 sg_31 rfl o_33 rfl
  clear o_33 hz_34
  refine lv_aload_n hx hb dX9_init_69 rfl (lv_at hl 0 rfl) ?_
  refine nw_new (ci := 5) (fs := [.null, .null]) (C := RX6) (T := TX6) (N := 2) (z := h0 + 19) hx hb hts in6 tyX6 tyX6_ok hown (hts (.classLink RX9 36 RX6) (List.mem_of_getElem? (i := 16) rfl)) (hts (.instantiable RX6 2) (List.mem_of_getElem? (i := 17) rfl)) (hts (.initialized RX6) (List.mem_of_getElem? (i := 18) rfl)) hK rfl df_X6 hS hz (Nat.le_add_right _ _) (Nat.le_of_ble_eq_true rfl) (Nat.le_of_ble_eq_true rfl) dX9_init_70 (fun H at_35 hz o_36 hS => ?_)
  replace at0 := va_at.keptA (b := h0) (z := 19) 0 at0 o_36 (Nat.le_of_ble_eq_true rfl)
  replace sg_3 := tS.keptA (b := h0) (z := 19) 1 3 sg_3 rfl o_36 (Nat.le_of_ble_eq_true rfl)
  replace sg_9 := tS.keptA (b := h0) (z := 19) 4 4 sg_9 rfl o_36 (Nat.le_of_ble_eq_true rfl)
  replace sg_15 := tS.keptA (b := h0) (z := 19) 8 4 sg_15 rfl o_36 (Nat.le_of_ble_eq_true rfl)
  replace sg_21 := tS.keptA (b := h0) (z := 19) 12 4 sg_21 rfl o_36 (Nat.le_of_ble_eq_true rfl)
  replace sg_31 := tS.keptA (b := h0) (z := 19) 16 3 sg_31 rfl o_36 (Nat.le_of_ble_eq_true rfl)
  clear o_36
  have hz : H.size = h0 + 20 := hz
  refine lv_dup hx hb dX9_init_73 rfl ?_
  refine nw_call (z := h0 + 19) (tRun (va_runI (As := []) (rest := [.ref (h0 + 19), .ref h0]) ⟨hx, hb, hml, hown, hts⟩ (cc_X6 l D cI cL cC gR (h0 + 19)) (cwI 0 hts gX9_init_X6_init rfl rfl rfl (hts (.initialized RX6) (List.mem_of_getElem? (i := 18) rfl)) (hts (.methodLink RX9 38 yX6_init) (List.mem_of_getElem? (i := 63) rfl)) (hts (.instanceMethod yX6_init) (List.mem_of_getElem? (i := 64) rfl)) rfl (by decide +kernel) ⟨Nat.le_of_ble_eq_true rfl, Nat.le_of_ble_eq_true rfl⟩) (cP_I hz at_35 hE) rfl rfl hl.1 rfl (lv_room (Nat.le_of_ble_eq_true rfl)) dX9_init_74 ⟨Nat.le_of_ble_eq_true rfl, Nat.le_of_ble_eq_true rfl⟩)) hS hz (by decide) (Nat.le_add_right _ _) (fun H locs sg_37 hz o_38 hS => ?_)
  replace at0 := va_at.keptA (b := h0) (z := 19) 0 at0 o_38 (Nat.le_of_ble_eq_true rfl)
  replace sg_3 := tS.keptA (b := h0) (z := 19) 1 3 sg_3 rfl o_38 (Nat.le_of_ble_eq_true rfl)
  replace sg_9 := tS.keptA (b := h0) (z := 19) 4 4 sg_9 rfl o_38 (Nat.le_of_ble_eq_true rfl)
  replace sg_15 := tS.keptA (b := h0) (z := 19) 8 4 sg_15 rfl o_38 (Nat.le_of_ble_eq_true rfl)
  replace sg_21 := tS.keptA (b := h0) (z := 19) 12 4 sg_21 rfl o_38 (Nat.le_of_ble_eq_true rfl)
  replace sg_31 := tS.keptA (b := h0) (z := 19) 16 3 sg_31 rfl o_38 (Nat.le_of_ble_eq_true rfl)
  have hz : H.size = h0 + 22 := tSlen (n := 3) hz rfl
  clear o_38
  have sg_37 : tS D (fF cI cL cC 0 gR) [4, 15, 16] (h0 + 19) H := sg_37
  refine nw_putF (D := D) (ci := 8) (v := .ref (h0 + 19)) (ty := .object "RiverModel$Sky") (C := RX9) (T := TX9) (N := 18) hx hb hts in9 tyX9 tyX9_ok nmX9 hown hK hS (Nat.le_refl _) at0 rfl 7 (by decide) (hts (.fieldLink RX9 43 "RiverModel" "skyB" "LRiverModel$Sky;") (List.mem_of_getElem? (i := 20) rfl)) (fun _ h9 => h9) rfl hin rfl (by decide +kernel) rfl rfl (Nat.le_of_ble_eq_true rfl) dX9_init_77 (fun H locs at0 hz_40 o_39 hS => ?_)
  have at0 : va_at D vwCl (h0, .inr (8, [.ref (h0 + 1), .ref (h0 + 4), .ref (h0 + 8), .ref (h0 + 12), .int 0, .int 0, .ref (h0 + 16), .ref (h0 + 19), .null, .null, .null, .null, .null, .int 0, .null, .null, .null, .null])) H := at0
  replace hz : H.size = h0 + 22 := hz_40.trans hz
  replace sg_3 := tS.keptP (b := h0) (j := 0) 1 3 sg_3 rfl o_39 rfl
  replace sg_9 := tS.keptP (b := h0) (j := 0) 4 4 sg_9 rfl o_39 rfl
  replace sg_15 := tS.keptP (b := h0) (j := 0) 8 4 sg_15 rfl o_39 rfl
  replace sg_21 := tS.keptP (b := h0) (j := 0) 12 4 sg_21 rfl o_39 rfl
  replace sg_31 := tS.keptP (b := h0) (j := 0) 16 3 sg_31 rfl o_39 rfl
  replace sg_37 := tS.keptP (b := h0) (j := 0) 19 3 sg_37 rfl o_39 rfl
  clear o_39 hz_40
  refine lv_aload_n hx hb dX9_init_80 rfl (lv_at hl 0 rfl) ?_
  refine lv_pc (pc2 := 81) rfl ?_
  refine lv_bipush (v := 16) hx hb dX9_init_81 (by decide) ?_
  refine nw_newI (N := 16) (z := h0 + 22) hx hb (hts (.arrayClass .int) (List.mem_of_getElem? (i := 21) rfl)) hK hS hz (Nat.le_add_right _ _) (by decide) (by decide) (by decide) (Nat.le_of_ble_eq_true rfl) (Nat.le_of_ble_eq_true rfl) dX9_init_83 (fun H at_41 hz o_42 hS => ?_)
  replace at0 := va_at.keptA (b := h0) (z := 22) 0 at0 o_42 (Nat.le_of_ble_eq_true rfl)
  replace sg_3 := tS.keptA (b := h0) (z := 22) 1 3 sg_3 rfl o_42 (Nat.le_of_ble_eq_true rfl)
  replace sg_9 := tS.keptA (b := h0) (z := 22) 4 4 sg_9 rfl o_42 (Nat.le_of_ble_eq_true rfl)
  replace sg_15 := tS.keptA (b := h0) (z := 22) 8 4 sg_15 rfl o_42 (Nat.le_of_ble_eq_true rfl)
  replace sg_21 := tS.keptA (b := h0) (z := 22) 12 4 sg_21 rfl o_42 (Nat.le_of_ble_eq_true rfl)
  replace sg_31 := tS.keptA (b := h0) (z := 22) 16 3 sg_31 rfl o_42 (Nat.le_of_ble_eq_true rfl)
  replace sg_37 := tS.keptA (b := h0) (z := 22) 19 3 sg_37 rfl o_42 (Nat.le_of_ble_eq_true rfl)
  clear o_42
  have hz : H.size = h0 + 23 := hz
  refine nw_putF (D := D) (ci := 8) (v := .ref (h0 + 22)) (ty := .array .int) (C := RX9) (T := TX9) (N := 18) hx hb hts in9 tyX9 tyX9_ok nmX9 hown hK hS (Nat.le_refl _) at0 rfl 8 (by decide) (hts (.fieldLink RX9 46 "RiverModel" "startsB" "[I") (List.mem_of_getElem? (i := 22) rfl)) (fun _ h9 => h9) rfl hin rfl (by decide +kernel) rfl rfl (Nat.le_of_ble_eq_true rfl) dX9_init_85 (fun H locs at0 hz_44 o_43 hS => ?_)
  have at0 : va_at D vwCl (h0, .inr (8, [.ref (h0 + 1), .ref (h0 + 4), .ref (h0 + 8), .ref (h0 + 12), .int 0, .int 0, .ref (h0 + 16), .ref (h0 + 19), .ref (h0 + 22), .null, .null, .null, .null, .int 0, .null, .null, .null, .null])) H := at0
  replace hz : H.size = h0 + 23 := hz_44.trans hz
  replace sg_3 := tS.keptP (b := h0) (j := 0) 1 3 sg_3 rfl o_43 rfl
  replace sg_9 := tS.keptP (b := h0) (j := 0) 4 4 sg_9 rfl o_43 rfl
  replace sg_15 := tS.keptP (b := h0) (j := 0) 8 4 sg_15 rfl o_43 rfl
  replace sg_21 := tS.keptP (b := h0) (j := 0) 12 4 sg_21 rfl o_43 rfl
  replace sg_31 := tS.keptP (b := h0) (j := 0) 16 3 sg_31 rfl o_43 rfl
  replace sg_37 := tS.keptP (b := h0) (j := 0) 19 3 sg_37 rfl o_43 rfl
  replace at_41 := va_at.keptP (b := h0) (j := 0) 22 at_41 o_43 rfl
  clear o_43 hz_44
  refine lv_aload_n hx hb dX9_init_88 rfl (lv_at hl 0 rfl) ?_
  refine nw_new (ci := 0) (fs := [.null, .null, .null, .null, .long 0, .long 0, .long 0, .int 0]) (C := RX0) (T := TX0) (N := 8) (z := h0 + 23) hx hb hts in0 tyX0 tyX0_ok hown (hts (.classLink RX9 50 RX0) (List.mem_of_getElem? (i := 23) rfl)) (hts (.instantiable RX0 8) (List.mem_of_getElem? (i := 24) rfl)) (hts (.initialized RX0) (List.mem_of_getElem? (i := 25) rfl)) hK rfl df_X0 hS hz (Nat.le_add_right _ _) (Nat.le_of_ble_eq_true rfl) (Nat.le_of_ble_eq_true rfl) dX9_init_89 (fun H at_45 hz o_46 hS => ?_)
  replace at0 := va_at.keptA (b := h0) (z := 23) 0 at0 o_46 (Nat.le_of_ble_eq_true rfl)
  replace sg_3 := tS.keptA (b := h0) (z := 23) 1 3 sg_3 rfl o_46 (Nat.le_of_ble_eq_true rfl)
  replace sg_9 := tS.keptA (b := h0) (z := 23) 4 4 sg_9 rfl o_46 (Nat.le_of_ble_eq_true rfl)
  replace sg_15 := tS.keptA (b := h0) (z := 23) 8 4 sg_15 rfl o_46 (Nat.le_of_ble_eq_true rfl)
  replace sg_21 := tS.keptA (b := h0) (z := 23) 12 4 sg_21 rfl o_46 (Nat.le_of_ble_eq_true rfl)
  replace sg_31 := tS.keptA (b := h0) (z := 23) 16 3 sg_31 rfl o_46 (Nat.le_of_ble_eq_true rfl)
  replace sg_37 := tS.keptA (b := h0) (z := 23) 19 3 sg_37 rfl o_46 (Nat.le_of_ble_eq_true rfl)
  replace at_41 := va_at.keptA (b := h0) (z := 23) 22 at_41 o_46 (Nat.le_of_ble_eq_true rfl)
  clear o_46
  have hz : H.size = h0 + 24 := hz
  refine lv_dup hx hb dX9_init_92 rfl ?_
  refine nw_call (z := h0 + 23) (tRun (va_runIN (As := []) (rest := [.ref (h0 + 23), .ref h0]) ⟨hx, hb, hml, hown, hts⟩ (cc_X0 l D cI cL cC gR (h0 + 23)) ⟨va_cnB 0 hts gX9_init_X0_init_n52 rfl rfl rfl (hE.2.1 _ (List.mem_of_getElem? (i := 2) rfl)) (hts (.initialized RX0) (List.mem_of_getElem? (i := 25) rfl)) (by decide +kernel) ⟨Nat.le_of_ble_eq_true rfl, Nat.le_of_ble_eq_true rfl⟩, rfl, (hts (.instanceMethod yX0_init) (List.mem_of_getElem? (i := 73) rfl))⟩ (cP_I hz at_45 hE) rfl rfl hl.1 rfl (lv_room (Nat.le_of_ble_eq_true rfl)) dX9_init_93 ⟨Nat.le_of_ble_eq_true rfl, Nat.le_of_ble_eq_true rfl⟩)) hS hz (by decide) (Nat.le_add_right _ _) (fun H locs sg_47 hz o_48 hS => ?_)
  replace at0 := va_at.keptA (b := h0) (z := 23) 0 at0 o_48 (Nat.le_of_ble_eq_true rfl)
  replace sg_3 := tS.keptA (b := h0) (z := 23) 1 3 sg_3 rfl o_48 (Nat.le_of_ble_eq_true rfl)
  replace sg_9 := tS.keptA (b := h0) (z := 23) 4 4 sg_9 rfl o_48 (Nat.le_of_ble_eq_true rfl)
  replace sg_15 := tS.keptA (b := h0) (z := 23) 8 4 sg_15 rfl o_48 (Nat.le_of_ble_eq_true rfl)
  replace sg_21 := tS.keptA (b := h0) (z := 23) 12 4 sg_21 rfl o_48 (Nat.le_of_ble_eq_true rfl)
  replace sg_31 := tS.keptA (b := h0) (z := 23) 16 3 sg_31 rfl o_48 (Nat.le_of_ble_eq_true rfl)
  replace sg_37 := tS.keptA (b := h0) (z := 23) 19 3 sg_37 rfl o_48 (Nat.le_of_ble_eq_true rfl)
  replace at_41 := va_at.keptA (b := h0) (z := 23) 22 at_41 o_48 (Nat.le_of_ble_eq_true rfl)
  have hz : H.size = h0 + 28 := tSlen (n := 5) hz rfl
  clear o_48
  have sg_47 : tS D (fF cI cL cC 0 gR) [5, 17, 18, 19, 20] (h0 + 23) H := sg_47
  refine nw_putF (D := D) (ci := 8) (v := .ref (h0 + 23)) (ty := .object "RiverModel$Course") (C := RX9) (T := TX9) (N := 18) hx hb hts in9 tyX9 tyX9_ok nmX9 hown hK hS (Nat.le_refl _) at0 rfl 9 (by decide) (hts (.fieldLink RX9 53 "RiverModel" "now" "LRiverModel$Course;") (List.mem_of_getElem? (i := 26) rfl)) (fun _ h9 => h9) rfl hin rfl (by decide +kernel) rfl rfl (Nat.le_of_ble_eq_true rfl) dX9_init_96 (fun H locs at0 hz_50 o_49 hS => ?_)
  have at0 : va_at D vwCl (h0, .inr (8, [.ref (h0 + 1), .ref (h0 + 4), .ref (h0 + 8), .ref (h0 + 12), .int 0, .int 0, .ref (h0 + 16), .ref (h0 + 19), .ref (h0 + 22), .ref (h0 + 23), .null, .null, .null, .int 0, .null, .null, .null, .null])) H := at0
  replace hz : H.size = h0 + 28 := hz_50.trans hz
  replace sg_3 := tS.keptP (b := h0) (j := 0) 1 3 sg_3 rfl o_49 rfl
  replace sg_9 := tS.keptP (b := h0) (j := 0) 4 4 sg_9 rfl o_49 rfl
  replace sg_15 := tS.keptP (b := h0) (j := 0) 8 4 sg_15 rfl o_49 rfl
  replace sg_21 := tS.keptP (b := h0) (j := 0) 12 4 sg_21 rfl o_49 rfl
  replace sg_31 := tS.keptP (b := h0) (j := 0) 16 3 sg_31 rfl o_49 rfl
  replace sg_37 := tS.keptP (b := h0) (j := 0) 19 3 sg_37 rfl o_49 rfl
  replace at_41 := va_at.keptP (b := h0) (j := 0) 22 at_41 o_49 rfl
  replace sg_47 := tS.keptP (b := h0) (j := 0) 23 5 sg_47 rfl o_49 rfl
  clear o_49 hz_50
  refine lv_pc (pc2 := 99) rfl ?_
  refine lv_aload_n hx hb dX9_init_99 rfl (lv_at hl 0 rfl) ?_
  refine nw_new (ci := 0) (fs := [.null, .null, .null, .null, .long 0, .long 0, .long 0, .int 0]) (C := RX0) (T := TX0) (N := 8) (z := h0 + 28) hx hb hts in0 tyX0 tyX0_ok hown (hts (.classLink RX9 50 RX0) (List.mem_of_getElem? (i := 23) rfl)) (hts (.instantiable RX0 8) (List.mem_of_getElem? (i := 24) rfl)) (hts (.initialized RX0) (List.mem_of_getElem? (i := 25) rfl)) hK rfl df_X0 hS hz (Nat.le_add_right _ _) (Nat.le_of_ble_eq_true rfl) (Nat.le_of_ble_eq_true rfl) dX9_init_100 (fun H at_51 hz o_52 hS => ?_)
  replace at0 := va_at.keptA (b := h0) (z := 28) 0 at0 o_52 (Nat.le_of_ble_eq_true rfl)
  replace sg_3 := tS.keptA (b := h0) (z := 28) 1 3 sg_3 rfl o_52 (Nat.le_of_ble_eq_true rfl)
  replace sg_9 := tS.keptA (b := h0) (z := 28) 4 4 sg_9 rfl o_52 (Nat.le_of_ble_eq_true rfl)
  replace sg_15 := tS.keptA (b := h0) (z := 28) 8 4 sg_15 rfl o_52 (Nat.le_of_ble_eq_true rfl)
  replace sg_21 := tS.keptA (b := h0) (z := 28) 12 4 sg_21 rfl o_52 (Nat.le_of_ble_eq_true rfl)
  replace sg_31 := tS.keptA (b := h0) (z := 28) 16 3 sg_31 rfl o_52 (Nat.le_of_ble_eq_true rfl)
  replace sg_37 := tS.keptA (b := h0) (z := 28) 19 3 sg_37 rfl o_52 (Nat.le_of_ble_eq_true rfl)
  replace at_41 := va_at.keptA (b := h0) (z := 28) 22 at_41 o_52 (Nat.le_of_ble_eq_true rfl)
  replace sg_47 := tS.keptA (b := h0) (z := 28) 23 5 sg_47 rfl o_52 (Nat.le_of_ble_eq_true rfl)
  clear o_52
  have hz : H.size = h0 + 29 := hz
  refine lv_dup hx hb dX9_init_103 rfl ?_
  refine nw_call (z := h0 + 28) (tRun (va_runIN (As := []) (rest := [.ref (h0 + 28), .ref h0]) ⟨hx, hb, hml, hown, hts⟩ (cc_X0 l D cI cL cC gR (h0 + 28)) ⟨va_cnB 0 hts gX9_init_X0_init_n52 rfl rfl rfl (hE.2.1 _ (List.mem_of_getElem? (i := 2) rfl)) (hts (.initialized RX0) (List.mem_of_getElem? (i := 25) rfl)) (by decide +kernel) ⟨Nat.le_of_ble_eq_true rfl, Nat.le_of_ble_eq_true rfl⟩, rfl, (hts (.instanceMethod yX0_init) (List.mem_of_getElem? (i := 73) rfl))⟩ (cP_I hz at_51 hE) rfl rfl hl.1 rfl (lv_room (Nat.le_of_ble_eq_true rfl)) dX9_init_104 ⟨Nat.le_of_ble_eq_true rfl, Nat.le_of_ble_eq_true rfl⟩)) hS hz (by decide) (Nat.le_add_right _ _) (fun H locs sg_53 hz o_54 hS => ?_)
  replace at0 := va_at.keptA (b := h0) (z := 28) 0 at0 o_54 (Nat.le_of_ble_eq_true rfl)
  replace sg_3 := tS.keptA (b := h0) (z := 28) 1 3 sg_3 rfl o_54 (Nat.le_of_ble_eq_true rfl)
  replace sg_9 := tS.keptA (b := h0) (z := 28) 4 4 sg_9 rfl o_54 (Nat.le_of_ble_eq_true rfl)
  replace sg_15 := tS.keptA (b := h0) (z := 28) 8 4 sg_15 rfl o_54 (Nat.le_of_ble_eq_true rfl)
  replace sg_21 := tS.keptA (b := h0) (z := 28) 12 4 sg_21 rfl o_54 (Nat.le_of_ble_eq_true rfl)
  replace sg_31 := tS.keptA (b := h0) (z := 28) 16 3 sg_31 rfl o_54 (Nat.le_of_ble_eq_true rfl)
  replace sg_37 := tS.keptA (b := h0) (z := 28) 19 3 sg_37 rfl o_54 (Nat.le_of_ble_eq_true rfl)
  replace at_41 := va_at.keptA (b := h0) (z := 28) 22 at_41 o_54 (Nat.le_of_ble_eq_true rfl)
  replace sg_47 := tS.keptA (b := h0) (z := 28) 23 5 sg_47 rfl o_54 (Nat.le_of_ble_eq_true rfl)
  have hz : H.size = h0 + 33 := tSlen (n := 5) hz rfl
  clear o_54
  have sg_53 : tS D (fF cI cL cC 0 gR) [5, 17, 18, 19, 20] (h0 + 28) H := sg_53
  refine nw_putF (D := D) (ci := 8) (v := .ref (h0 + 28)) (ty := .object "RiverModel$Course") (C := RX9) (T := TX9) (N := 18) hx hb hts in9 tyX9 tyX9_ok nmX9 hown hK hS (Nat.le_refl _) at0 rfl 10 (by decide) (hts (.fieldLink RX9 57 "RiverModel" "trial" "LRiverModel$Course;") (List.mem_of_getElem? (i := 27) rfl)) (fun _ h9 => h9) rfl hin rfl (by decide +kernel) rfl rfl (Nat.le_of_ble_eq_true rfl) dX9_init_107 (fun H locs at0 hz_56 o_55 hS => ?_)
  have at0 : va_at D vwCl (h0, .inr (8, [.ref (h0 + 1), .ref (h0 + 4), .ref (h0 + 8), .ref (h0 + 12), .int 0, .int 0, .ref (h0 + 16), .ref (h0 + 19), .ref (h0 + 22), .ref (h0 + 23), .ref (h0 + 28), .null, .null, .int 0, .null, .null, .null, .null])) H := at0
  replace hz : H.size = h0 + 33 := hz_56.trans hz
  replace sg_3 := tS.keptP (b := h0) (j := 0) 1 3 sg_3 rfl o_55 rfl
  replace sg_9 := tS.keptP (b := h0) (j := 0) 4 4 sg_9 rfl o_55 rfl
  replace sg_15 := tS.keptP (b := h0) (j := 0) 8 4 sg_15 rfl o_55 rfl
  replace sg_21 := tS.keptP (b := h0) (j := 0) 12 4 sg_21 rfl o_55 rfl
  replace sg_31 := tS.keptP (b := h0) (j := 0) 16 3 sg_31 rfl o_55 rfl
  replace sg_37 := tS.keptP (b := h0) (j := 0) 19 3 sg_37 rfl o_55 rfl
  replace at_41 := va_at.keptP (b := h0) (j := 0) 22 at_41 o_55 rfl
  replace sg_47 := tS.keptP (b := h0) (j := 0) 23 5 sg_47 rfl o_55 rfl
  replace sg_53 := tS.keptP (b := h0) (j := 0) 28 5 sg_53 rfl o_55 rfl
  clear o_55 hz_56
  refine lv_aload_n hx hb dX9_init_110 rfl (lv_at hl 0 rfl) ?_
  refine nw_new (ci := 0) (fs := [.null, .null, .null, .null, .long 0, .long 0, .long 0, .int 0]) (C := RX0) (T := TX0) (N := 8) (z := h0 + 33) hx hb hts in0 tyX0 tyX0_ok hown (hts (.classLink RX9 50 RX0) (List.mem_of_getElem? (i := 23) rfl)) (hts (.instantiable RX0 8) (List.mem_of_getElem? (i := 24) rfl)) (hts (.initialized RX0) (List.mem_of_getElem? (i := 25) rfl)) hK rfl df_X0 hS hz (Nat.le_add_right _ _) (Nat.le_of_ble_eq_true rfl) (Nat.le_of_ble_eq_true rfl) dX9_init_111 (fun H at_57 hz o_58 hS => ?_)
  replace at0 := va_at.keptA (b := h0) (z := 33) 0 at0 o_58 (Nat.le_of_ble_eq_true rfl)
  replace sg_3 := tS.keptA (b := h0) (z := 33) 1 3 sg_3 rfl o_58 (Nat.le_of_ble_eq_true rfl)
  replace sg_9 := tS.keptA (b := h0) (z := 33) 4 4 sg_9 rfl o_58 (Nat.le_of_ble_eq_true rfl)
  replace sg_15 := tS.keptA (b := h0) (z := 33) 8 4 sg_15 rfl o_58 (Nat.le_of_ble_eq_true rfl)
  replace sg_21 := tS.keptA (b := h0) (z := 33) 12 4 sg_21 rfl o_58 (Nat.le_of_ble_eq_true rfl)
  replace sg_31 := tS.keptA (b := h0) (z := 33) 16 3 sg_31 rfl o_58 (Nat.le_of_ble_eq_true rfl)
  replace sg_37 := tS.keptA (b := h0) (z := 33) 19 3 sg_37 rfl o_58 (Nat.le_of_ble_eq_true rfl)
  replace at_41 := va_at.keptA (b := h0) (z := 33) 22 at_41 o_58 (Nat.le_of_ble_eq_true rfl)
  replace sg_47 := tS.keptA (b := h0) (z := 33) 23 5 sg_47 rfl o_58 (Nat.le_of_ble_eq_true rfl)
  replace sg_53 := tS.keptA (b := h0) (z := 33) 28 5 sg_53 rfl o_58 (Nat.le_of_ble_eq_true rfl)
  clear o_58
  have hz : H.size = h0 + 34 := hz
  refine lv_dup hx hb dX9_init_114 rfl ?_
  refine lv_pc (pc2 := 115) rfl ?_
  refine nw_call (z := h0 + 33) (tRun (va_runIN (As := []) (rest := [.ref (h0 + 33), .ref h0]) ⟨hx, hb, hml, hown, hts⟩ (cc_X0 l D cI cL cC gR (h0 + 33)) ⟨va_cnB 0 hts gX9_init_X0_init_n52 rfl rfl rfl (hE.2.1 _ (List.mem_of_getElem? (i := 2) rfl)) (hts (.initialized RX0) (List.mem_of_getElem? (i := 25) rfl)) (by decide +kernel) ⟨Nat.le_of_ble_eq_true rfl, Nat.le_of_ble_eq_true rfl⟩, rfl, (hts (.instanceMethod yX0_init) (List.mem_of_getElem? (i := 73) rfl))⟩ (cP_I hz at_57 hE) rfl rfl hl.1 rfl (lv_room (Nat.le_of_ble_eq_true rfl)) dX9_init_115 ⟨Nat.le_of_ble_eq_true rfl, Nat.le_of_ble_eq_true rfl⟩)) hS hz (by decide) (Nat.le_add_right _ _) (fun H locs sg_59 hz o_60 hS => ?_)
  replace at0 := va_at.keptA (b := h0) (z := 33) 0 at0 o_60 (Nat.le_of_ble_eq_true rfl)
  replace sg_3 := tS.keptA (b := h0) (z := 33) 1 3 sg_3 rfl o_60 (Nat.le_of_ble_eq_true rfl)
  replace sg_9 := tS.keptA (b := h0) (z := 33) 4 4 sg_9 rfl o_60 (Nat.le_of_ble_eq_true rfl)
  replace sg_15 := tS.keptA (b := h0) (z := 33) 8 4 sg_15 rfl o_60 (Nat.le_of_ble_eq_true rfl)
  replace sg_21 := tS.keptA (b := h0) (z := 33) 12 4 sg_21 rfl o_60 (Nat.le_of_ble_eq_true rfl)
  replace sg_31 := tS.keptA (b := h0) (z := 33) 16 3 sg_31 rfl o_60 (Nat.le_of_ble_eq_true rfl)
  replace sg_37 := tS.keptA (b := h0) (z := 33) 19 3 sg_37 rfl o_60 (Nat.le_of_ble_eq_true rfl)
  replace at_41 := va_at.keptA (b := h0) (z := 33) 22 at_41 o_60 (Nat.le_of_ble_eq_true rfl)
  replace sg_47 := tS.keptA (b := h0) (z := 33) 23 5 sg_47 rfl o_60 (Nat.le_of_ble_eq_true rfl)
  replace sg_53 := tS.keptA (b := h0) (z := 33) 28 5 sg_53 rfl o_60 (Nat.le_of_ble_eq_true rfl)
  have hz : H.size = h0 + 38 := tSlen (n := 5) hz rfl
  clear o_60
  have sg_59 : tS D (fF cI cL cC 0 gR) [5, 17, 18, 19, 20] (h0 + 33) H := sg_59
  refine nw_putF (D := D) (ci := 8) (v := .ref (h0 + 33)) (ty := .object "RiverModel$Course") (C := RX9) (T := TX9) (N := 18) hx hb hts in9 tyX9 tyX9_ok nmX9 hown hK hS (Nat.le_refl _) at0 rfl 11 (by decide) (hts (.fieldLink RX9 60 "RiverModel" "second" "LRiverModel$Course;") (List.mem_of_getElem? (i := 28) rfl)) (fun _ h9 => h9) rfl hin rfl (by decide +kernel) rfl rfl (Nat.le_of_ble_eq_true rfl) dX9_init_118 (fun H locs at0 hz_62 o_61 hS => ?_)
  have at0 : va_at D vwCl (h0, .inr (8, [.ref (h0 + 1), .ref (h0 + 4), .ref (h0 + 8), .ref (h0 + 12), .int 0, .int 0, .ref (h0 + 16), .ref (h0 + 19), .ref (h0 + 22), .ref (h0 + 23), .ref (h0 + 28), .ref (h0 + 33), .null, .int 0, .null, .null, .null, .null])) H := at0
  replace hz : H.size = h0 + 38 := hz_62.trans hz
  replace sg_3 := tS.keptP (b := h0) (j := 0) 1 3 sg_3 rfl o_61 rfl
  replace sg_9 := tS.keptP (b := h0) (j := 0) 4 4 sg_9 rfl o_61 rfl
  replace sg_15 := tS.keptP (b := h0) (j := 0) 8 4 sg_15 rfl o_61 rfl
  replace sg_21 := tS.keptP (b := h0) (j := 0) 12 4 sg_21 rfl o_61 rfl
  replace sg_31 := tS.keptP (b := h0) (j := 0) 16 3 sg_31 rfl o_61 rfl
  replace sg_37 := tS.keptP (b := h0) (j := 0) 19 3 sg_37 rfl o_61 rfl
  replace at_41 := va_at.keptP (b := h0) (j := 0) 22 at_41 o_61 rfl
  replace sg_47 := tS.keptP (b := h0) (j := 0) 23 5 sg_47 rfl o_61 rfl
  replace sg_53 := tS.keptP (b := h0) (j := 0) 28 5 sg_53 rfl o_61 rfl
  replace sg_59 := tS.keptP (b := h0) (j := 0) 33 5 sg_59 rfl o_61 rfl
  clear o_61 hz_62
  refine lv_aload_n hx hb dX9_init_121 rfl (lv_at hl 0 rfl) ?_
  refine lv_iconst (v := 3) hx hb dX9_init_122 (by decide) ?_
  refine nw_newq (N := 3) (z := h0 + 38) hx hb hown (hts (.classLink RX9 50 RX0) (List.mem_of_getElem? (i := 23) rfl)) hE hS hz (Nat.le_add_right _ _) (by decide) (by decide) (by decide) (Nat.le_of_ble_eq_true rfl) (Nat.le_of_ble_eq_true rfl) dX9_init_123 (fun H at_63 hz o_64 hS => ?_)
  replace at0 := va_at.keptA (b := h0) (z := 38) 0 at0 o_64 (Nat.le_of_ble_eq_true rfl)
  replace sg_3 := tS.keptA (b := h0) (z := 38) 1 3 sg_3 rfl o_64 (Nat.le_of_ble_eq_true rfl)
  replace sg_9 := tS.keptA (b := h0) (z := 38) 4 4 sg_9 rfl o_64 (Nat.le_of_ble_eq_true rfl)
  replace sg_15 := tS.keptA (b := h0) (z := 38) 8 4 sg_15 rfl o_64 (Nat.le_of_ble_eq_true rfl)
  replace sg_21 := tS.keptA (b := h0) (z := 38) 12 4 sg_21 rfl o_64 (Nat.le_of_ble_eq_true rfl)
  replace sg_31 := tS.keptA (b := h0) (z := 38) 16 3 sg_31 rfl o_64 (Nat.le_of_ble_eq_true rfl)
  replace sg_37 := tS.keptA (b := h0) (z := 38) 19 3 sg_37 rfl o_64 (Nat.le_of_ble_eq_true rfl)
  replace at_41 := va_at.keptA (b := h0) (z := 38) 22 at_41 o_64 (Nat.le_of_ble_eq_true rfl)
  replace sg_47 := tS.keptA (b := h0) (z := 38) 23 5 sg_47 rfl o_64 (Nat.le_of_ble_eq_true rfl)
  replace sg_53 := tS.keptA (b := h0) (z := 38) 28 5 sg_53 rfl o_64 (Nat.le_of_ble_eq_true rfl)
  replace sg_59 := tS.keptA (b := h0) (z := 38) 33 5 sg_59 rfl o_64 (Nat.le_of_ble_eq_true rfl)
  clear o_64
  have hz : H.size = h0 + 39 := hz
  refine nw_putF (D := D) (ci := 8) (v := .ref (h0 + 38)) (ty := .array (.object "RiverModel$Course")) (C := RX9) (T := TX9) (N := 18) hx hb hts in9 tyX9 tyX9_ok nmX9 hown hK hS (Nat.le_refl _) at0 rfl 12 (by decide) (hts (.fieldLink RX9 63 "RiverModel" "kept" "[LRiverModel$Course;") (List.mem_of_getElem? (i := 29) rfl)) (fun _ h9 => h9) rfl hin rfl (by decide +kernel) rfl rfl (Nat.le_of_ble_eq_true rfl) dX9_init_126 (fun H locs at0 hz_66 o_65 hS => ?_)
  have at0 : va_at D vwCl (h0, .inr (8, [.ref (h0 + 1), .ref (h0 + 4), .ref (h0 + 8), .ref (h0 + 12), .int 0, .int 0, .ref (h0 + 16), .ref (h0 + 19), .ref (h0 + 22), .ref (h0 + 23), .ref (h0 + 28), .ref (h0 + 33), .ref (h0 + 38), .int 0, .null, .null, .null, .null])) H := at0
  replace hz : H.size = h0 + 39 := hz_66.trans hz
  replace sg_3 := tS.keptP (b := h0) (j := 0) 1 3 sg_3 rfl o_65 rfl
  replace sg_9 := tS.keptP (b := h0) (j := 0) 4 4 sg_9 rfl o_65 rfl
  replace sg_15 := tS.keptP (b := h0) (j := 0) 8 4 sg_15 rfl o_65 rfl
  replace sg_21 := tS.keptP (b := h0) (j := 0) 12 4 sg_21 rfl o_65 rfl
  replace sg_31 := tS.keptP (b := h0) (j := 0) 16 3 sg_31 rfl o_65 rfl
  replace sg_37 := tS.keptP (b := h0) (j := 0) 19 3 sg_37 rfl o_65 rfl
  replace at_41 := va_at.keptP (b := h0) (j := 0) 22 at_41 o_65 rfl
  replace sg_47 := tS.keptP (b := h0) (j := 0) 23 5 sg_47 rfl o_65 rfl
  replace sg_53 := tS.keptP (b := h0) (j := 0) 28 5 sg_53 rfl o_65 rfl
  replace sg_59 := tS.keptP (b := h0) (j := 0) 33 5 sg_59 rfl o_65 rfl
  replace at_63 := va_at.keptP (b := h0) (j := 0) 38 at_63 o_65 rfl
  clear o_65 hz_66
  refine lv_aload_n hx hb dX9_init_129 rfl (lv_at hl 0 rfl) ?_
  refine lv_iconst (v := 0) hx hb dX9_init_130 (by decide) ?_
  refine lv_pc (pc2 := 131) rfl ?_
  refine nw_put (D := D) (ci := 8) (v := .int 0) (ty := .int) (C := RX9) (T := TX9) (N := 18) hx hb hts in9 tyX9 tyX9_ok nmX9 hown hK hS (Nat.le_refl _) at0 rfl 13 (by decide) (hts (.fieldLink RX9 67 "RiverModel" "keptMany" "I") (List.mem_of_getElem? (i := 30) rfl)) (fun _ h9 => h9) rfl (by decide +kernel) rfl rfl (Nat.le_of_ble_eq_true rfl) dX9_init_131 (fun H locs at0 hz_68 o_67 hS => ?_)
  have at0 : va_at D vwCl (h0, .inr (8, [.ref (h0 + 1), .ref (h0 + 4), .ref (h0 + 8), .ref (h0 + 12), .int 0, .int 0, .ref (h0 + 16), .ref (h0 + 19), .ref (h0 + 22), .ref (h0 + 23), .ref (h0 + 28), .ref (h0 + 33), .ref (h0 + 38), .int 0, .null, .null, .null, .null])) H := at0
  replace hz : H.size = h0 + 39 := hz_68.trans hz
  replace sg_3 := tS.keptP (b := h0) (j := 0) 1 3 sg_3 rfl o_67 rfl
  replace sg_9 := tS.keptP (b := h0) (j := 0) 4 4 sg_9 rfl o_67 rfl
  replace sg_15 := tS.keptP (b := h0) (j := 0) 8 4 sg_15 rfl o_67 rfl
  replace sg_21 := tS.keptP (b := h0) (j := 0) 12 4 sg_21 rfl o_67 rfl
  replace sg_31 := tS.keptP (b := h0) (j := 0) 16 3 sg_31 rfl o_67 rfl
  replace sg_37 := tS.keptP (b := h0) (j := 0) 19 3 sg_37 rfl o_67 rfl
  replace at_41 := va_at.keptP (b := h0) (j := 0) 22 at_41 o_67 rfl
  replace sg_47 := tS.keptP (b := h0) (j := 0) 23 5 sg_47 rfl o_67 rfl
  replace sg_53 := tS.keptP (b := h0) (j := 0) 28 5 sg_53 rfl o_67 rfl
  replace sg_59 := tS.keptP (b := h0) (j := 0) 33 5 sg_59 rfl o_67 rfl
  replace at_63 := va_at.keptP (b := h0) (j := 0) 38 at_63 o_67 rfl
  clear o_67 hz_68
  refine lv_aload_n hx hb dX9_init_134 rfl (lv_at hl 0 rfl) ?_
  refine nw_new (ci := 1) (fs := [.null, .null, .null, .int 0]) (C := RX1) (T := TX1) (N := 4) (z := h0 + 39) hx hb hts in1 tyX1 tyX1_ok hown (hts (.classLink RX9 71 RX1) (List.mem_of_getElem? (i := 31) rfl)) (hts (.instantiable RX1 4) (List.mem_of_getElem? (i := 32) rfl)) (hts (.initialized RX1) (List.mem_of_getElem? (i := 33) rfl)) hK rfl df_X1 hS hz (Nat.le_add_right _ _) (Nat.le_of_ble_eq_true rfl) (Nat.le_of_ble_eq_true rfl) dX9_init_135 (fun H at_69 hz o_70 hS => ?_)
  replace at0 := va_at.keptA (b := h0) (z := 39) 0 at0 o_70 (Nat.le_of_ble_eq_true rfl)
  replace sg_3 := tS.keptA (b := h0) (z := 39) 1 3 sg_3 rfl o_70 (Nat.le_of_ble_eq_true rfl)
  replace sg_9 := tS.keptA (b := h0) (z := 39) 4 4 sg_9 rfl o_70 (Nat.le_of_ble_eq_true rfl)
  replace sg_15 := tS.keptA (b := h0) (z := 39) 8 4 sg_15 rfl o_70 (Nat.le_of_ble_eq_true rfl)
  replace sg_21 := tS.keptA (b := h0) (z := 39) 12 4 sg_21 rfl o_70 (Nat.le_of_ble_eq_true rfl)
  replace sg_31 := tS.keptA (b := h0) (z := 39) 16 3 sg_31 rfl o_70 (Nat.le_of_ble_eq_true rfl)
  replace sg_37 := tS.keptA (b := h0) (z := 39) 19 3 sg_37 rfl o_70 (Nat.le_of_ble_eq_true rfl)
  replace at_41 := va_at.keptA (b := h0) (z := 39) 22 at_41 o_70 (Nat.le_of_ble_eq_true rfl)
  replace sg_47 := tS.keptA (b := h0) (z := 39) 23 5 sg_47 rfl o_70 (Nat.le_of_ble_eq_true rfl)
  replace sg_53 := tS.keptA (b := h0) (z := 39) 28 5 sg_53 rfl o_70 (Nat.le_of_ble_eq_true rfl)
  replace sg_59 := tS.keptA (b := h0) (z := 39) 33 5 sg_59 rfl o_70 (Nat.le_of_ble_eq_true rfl)
  replace at_63 := va_at.keptA (b := h0) (z := 39) 38 at_63 o_70 (Nat.le_of_ble_eq_true rfl)
  clear o_70
  have hz : H.size = h0 + 40 := hz
  refine lv_dup hx hb dX9_init_138 rfl ?_
  refine nw_call (z := h0 + 39) (tRun (va_runI (As := []) (rest := [.ref (h0 + 39), .ref h0]) ⟨hx, hb, hml, hown, hts⟩ (cc_X1 l D cI cL cC gR (h0 + 39)) (cwI 0 hts gX9_init_X1_init rfl rfl rfl (hts (.initialized RX1) (List.mem_of_getElem? (i := 33) rfl)) (hts (.methodLink RX9 73 yX1_init) (List.mem_of_getElem? (i := 85) rfl)) (hts (.instanceMethod yX1_init) (List.mem_of_getElem? (i := 86) rfl)) rfl (by decide +kernel) ⟨Nat.le_of_ble_eq_true rfl, Nat.le_of_ble_eq_true rfl⟩) (cP_I hz at_69 hE) rfl rfl hl.1 rfl (lv_room (Nat.le_of_ble_eq_true rfl)) dX9_init_139 ⟨Nat.le_of_ble_eq_true rfl, Nat.le_of_ble_eq_true rfl⟩)) hS hz (by decide) (Nat.le_add_right _ _) (fun H locs sg_71 hz o_72 hS => ?_)
  replace at0 := va_at.keptA (b := h0) (z := 39) 0 at0 o_72 (Nat.le_of_ble_eq_true rfl)
  replace sg_3 := tS.keptA (b := h0) (z := 39) 1 3 sg_3 rfl o_72 (Nat.le_of_ble_eq_true rfl)
  replace sg_9 := tS.keptA (b := h0) (z := 39) 4 4 sg_9 rfl o_72 (Nat.le_of_ble_eq_true rfl)
  replace sg_15 := tS.keptA (b := h0) (z := 39) 8 4 sg_15 rfl o_72 (Nat.le_of_ble_eq_true rfl)
  replace sg_21 := tS.keptA (b := h0) (z := 39) 12 4 sg_21 rfl o_72 (Nat.le_of_ble_eq_true rfl)
  replace sg_31 := tS.keptA (b := h0) (z := 39) 16 3 sg_31 rfl o_72 (Nat.le_of_ble_eq_true rfl)
  replace sg_37 := tS.keptA (b := h0) (z := 39) 19 3 sg_37 rfl o_72 (Nat.le_of_ble_eq_true rfl)
  replace at_41 := va_at.keptA (b := h0) (z := 39) 22 at_41 o_72 (Nat.le_of_ble_eq_true rfl)
  replace sg_47 := tS.keptA (b := h0) (z := 39) 23 5 sg_47 rfl o_72 (Nat.le_of_ble_eq_true rfl)
  replace sg_53 := tS.keptA (b := h0) (z := 39) 28 5 sg_53 rfl o_72 (Nat.le_of_ble_eq_true rfl)
  replace sg_59 := tS.keptA (b := h0) (z := 39) 33 5 sg_59 rfl o_72 (Nat.le_of_ble_eq_true rfl)
  replace at_63 := va_at.keptA (b := h0) (z := 39) 38 at_63 o_72 (Nat.le_of_ble_eq_true rfl)
  have hz : H.size = h0 + 43 := tSlen (n := 4) hz rfl
  clear o_72
  have sg_71 : tS D (fF cI cL cC 0 gR) [6, 21, 22, 23] (h0 + 39) H := sg_71
  refine nw_putF (D := D) (ci := 8) (v := .ref (h0 + 39)) (ty := .object "RiverModel$Gauges") (C := RX9) (T := TX9) (N := 18) hx hb hts in9 tyX9 tyX9_ok nmX9 hown hK hS (Nat.le_refl _) at0 rfl 14 (by decide) (hts (.fieldLink RX9 74 "RiverModel" "gauges" "LRiverModel$Gauges;") (List.mem_of_getElem? (i := 34) rfl)) (fun _ h9 => h9) rfl hin rfl (by decide +kernel) rfl rfl (Nat.le_of_ble_eq_true rfl) dX9_init_142 (fun H locs at0 hz_74 o_73 hS => ?_)
  have at0 : va_at D vwCl (h0, .inr (8, [.ref (h0 + 1), .ref (h0 + 4), .ref (h0 + 8), .ref (h0 + 12), .int 0, .int 0, .ref (h0 + 16), .ref (h0 + 19), .ref (h0 + 22), .ref (h0 + 23), .ref (h0 + 28), .ref (h0 + 33), .ref (h0 + 38), .int 0, .ref (h0 + 39), .null, .null, .null])) H := at0
  replace hz : H.size = h0 + 43 := hz_74.trans hz
  replace sg_3 := tS.keptP (b := h0) (j := 0) 1 3 sg_3 rfl o_73 rfl
  replace sg_9 := tS.keptP (b := h0) (j := 0) 4 4 sg_9 rfl o_73 rfl
  replace sg_15 := tS.keptP (b := h0) (j := 0) 8 4 sg_15 rfl o_73 rfl
  replace sg_21 := tS.keptP (b := h0) (j := 0) 12 4 sg_21 rfl o_73 rfl
  replace sg_31 := tS.keptP (b := h0) (j := 0) 16 3 sg_31 rfl o_73 rfl
  replace sg_37 := tS.keptP (b := h0) (j := 0) 19 3 sg_37 rfl o_73 rfl
  replace at_41 := va_at.keptP (b := h0) (j := 0) 22 at_41 o_73 rfl
  replace sg_47 := tS.keptP (b := h0) (j := 0) 23 5 sg_47 rfl o_73 rfl
  replace sg_53 := tS.keptP (b := h0) (j := 0) 28 5 sg_53 rfl o_73 rfl
  replace sg_59 := tS.keptP (b := h0) (j := 0) 33 5 sg_59 rfl o_73 rfl
  replace at_63 := va_at.keptP (b := h0) (j := 0) 38 at_63 o_73 rfl
  replace sg_71 := tS.keptP (b := h0) (j := 0) 39 4 sg_71 rfl o_73 rfl
  clear o_73 hz_74
  refine lv_aload_n hx hb dX9_init_145 rfl (lv_at hl 0 rfl) ?_
  refine nw_new (ci := 2) (fs := [.null, .null, .null, .null, .null]) (C := RX3) (T := TX3) (N := 5) (z := h0 + 43) hx hb hts in3 tyX3 tyX3_ok hown (hts (.classLink RX9 78 RX3) (List.mem_of_getElem? (i := 35) rfl)) (hts (.instantiable RX3 5) (List.mem_of_getElem? (i := 36) rfl)) (hts (.initialized RX3) (List.mem_of_getElem? (i := 37) rfl)) hK rfl df_X3 hS hz (Nat.le_add_right _ _) (Nat.le_of_ble_eq_true rfl) (Nat.le_of_ble_eq_true rfl) dX9_init_146 (fun H at_75 hz o_76 hS => ?_)
  replace at0 := va_at.keptA (b := h0) (z := 43) 0 at0 o_76 (Nat.le_of_ble_eq_true rfl)
  replace sg_3 := tS.keptA (b := h0) (z := 43) 1 3 sg_3 rfl o_76 (Nat.le_of_ble_eq_true rfl)
  replace sg_9 := tS.keptA (b := h0) (z := 43) 4 4 sg_9 rfl o_76 (Nat.le_of_ble_eq_true rfl)
  replace sg_15 := tS.keptA (b := h0) (z := 43) 8 4 sg_15 rfl o_76 (Nat.le_of_ble_eq_true rfl)
  replace sg_21 := tS.keptA (b := h0) (z := 43) 12 4 sg_21 rfl o_76 (Nat.le_of_ble_eq_true rfl)
  replace sg_31 := tS.keptA (b := h0) (z := 43) 16 3 sg_31 rfl o_76 (Nat.le_of_ble_eq_true rfl)
  replace sg_37 := tS.keptA (b := h0) (z := 43) 19 3 sg_37 rfl o_76 (Nat.le_of_ble_eq_true rfl)
  replace at_41 := va_at.keptA (b := h0) (z := 43) 22 at_41 o_76 (Nat.le_of_ble_eq_true rfl)
  replace sg_47 := tS.keptA (b := h0) (z := 43) 23 5 sg_47 rfl o_76 (Nat.le_of_ble_eq_true rfl)
  replace sg_53 := tS.keptA (b := h0) (z := 43) 28 5 sg_53 rfl o_76 (Nat.le_of_ble_eq_true rfl)
  replace sg_59 := tS.keptA (b := h0) (z := 43) 33 5 sg_59 rfl o_76 (Nat.le_of_ble_eq_true rfl)
  replace at_63 := va_at.keptA (b := h0) (z := 43) 38 at_63 o_76 (Nat.le_of_ble_eq_true rfl)
  replace sg_71 := tS.keptA (b := h0) (z := 43) 39 4 sg_71 rfl o_76 (Nat.le_of_ble_eq_true rfl)
  clear o_76
  have hz : H.size = h0 + 44 := hz
  refine lv_pc (pc2 := 149) rfl ?_
  refine lv_dup hx hb dX9_init_149 rfl ?_
  refine nw_call (z := h0 + 43) (tRun (va_runIN (As := []) (rest := [.ref (h0 + 43), .ref h0]) ⟨hx, hb, hml, hown, hts⟩ (cc_X3 l D cI cL cC gR (h0 + 43)) ⟨va_cnB 0 hts gX9_init_X3_init_n80 rfl rfl rfl (hE.2.1 _ (List.mem_of_getElem? (i := 3) rfl)) (hts (.initialized RX3) (List.mem_of_getElem? (i := 37) rfl)) (by decide +kernel) ⟨Nat.le_of_ble_eq_true rfl, Nat.le_of_ble_eq_true rfl⟩, rfl, (hts (.instanceMethod yX3_init) (List.mem_of_getElem? (i := 94) rfl))⟩ (cP_I hz at_75 hE) rfl rfl hl.1 rfl (lv_room (Nat.le_of_ble_eq_true rfl)) dX9_init_150 ⟨Nat.le_of_ble_eq_true rfl, Nat.le_of_ble_eq_true rfl⟩)) hS hz (by decide) (Nat.le_add_right _ _) (fun H locs sg_77 hz o_78 hS => ?_)
  replace at0 := va_at.keptA (b := h0) (z := 43) 0 at0 o_78 (Nat.le_of_ble_eq_true rfl)
  replace sg_3 := tS.keptA (b := h0) (z := 43) 1 3 sg_3 rfl o_78 (Nat.le_of_ble_eq_true rfl)
  replace sg_9 := tS.keptA (b := h0) (z := 43) 4 4 sg_9 rfl o_78 (Nat.le_of_ble_eq_true rfl)
  replace sg_15 := tS.keptA (b := h0) (z := 43) 8 4 sg_15 rfl o_78 (Nat.le_of_ble_eq_true rfl)
  replace sg_21 := tS.keptA (b := h0) (z := 43) 12 4 sg_21 rfl o_78 (Nat.le_of_ble_eq_true rfl)
  replace sg_31 := tS.keptA (b := h0) (z := 43) 16 3 sg_31 rfl o_78 (Nat.le_of_ble_eq_true rfl)
  replace sg_37 := tS.keptA (b := h0) (z := 43) 19 3 sg_37 rfl o_78 (Nat.le_of_ble_eq_true rfl)
  replace at_41 := va_at.keptA (b := h0) (z := 43) 22 at_41 o_78 (Nat.le_of_ble_eq_true rfl)
  replace sg_47 := tS.keptA (b := h0) (z := 43) 23 5 sg_47 rfl o_78 (Nat.le_of_ble_eq_true rfl)
  replace sg_53 := tS.keptA (b := h0) (z := 43) 28 5 sg_53 rfl o_78 (Nat.le_of_ble_eq_true rfl)
  replace sg_59 := tS.keptA (b := h0) (z := 43) 33 5 sg_59 rfl o_78 (Nat.le_of_ble_eq_true rfl)
  replace at_63 := va_at.keptA (b := h0) (z := 43) 38 at_63 o_78 (Nat.le_of_ble_eq_true rfl)
  replace sg_71 := tS.keptA (b := h0) (z := 43) 39 4 sg_71 rfl o_78 (Nat.le_of_ble_eq_true rfl)
  have hz : H.size = h0 + 49 := tSlen (n := 6) hz rfl
  clear o_78
  have sg_77 : tS D (fF cI cL cC 0 gR) [7, 24, 25, 26, 27, 28] (h0 + 43) H := sg_77
  refine nw_putF (D := D) (ci := 8) (v := .ref (h0 + 43)) (ty := .object "RiverModel$Knobs") (C := RX9) (T := TX9) (N := 18) hx hb hts in9 tyX9 tyX9_ok nmX9 hown hK hS (Nat.le_refl _) at0 rfl 15 (by decide) (hts (.fieldLink RX9 81 "RiverModel" "knobs" "LRiverModel$Knobs;") (List.mem_of_getElem? (i := 38) rfl)) (fun _ h9 => h9) rfl hin rfl (by decide +kernel) rfl rfl (Nat.le_of_ble_eq_true rfl) dX9_init_153 (fun H locs at0 hz_80 o_79 hS => ?_)
  have at0 : va_at D vwCl (h0, .inr (8, [.ref (h0 + 1), .ref (h0 + 4), .ref (h0 + 8), .ref (h0 + 12), .int 0, .int 0, .ref (h0 + 16), .ref (h0 + 19), .ref (h0 + 22), .ref (h0 + 23), .ref (h0 + 28), .ref (h0 + 33), .ref (h0 + 38), .int 0, .ref (h0 + 39), .ref (h0 + 43), .null, .null])) H := at0
  replace hz : H.size = h0 + 49 := hz_80.trans hz
  replace sg_3 := tS.keptP (b := h0) (j := 0) 1 3 sg_3 rfl o_79 rfl
  replace sg_9 := tS.keptP (b := h0) (j := 0) 4 4 sg_9 rfl o_79 rfl
  replace sg_15 := tS.keptP (b := h0) (j := 0) 8 4 sg_15 rfl o_79 rfl
  replace sg_21 := tS.keptP (b := h0) (j := 0) 12 4 sg_21 rfl o_79 rfl
  replace sg_31 := tS.keptP (b := h0) (j := 0) 16 3 sg_31 rfl o_79 rfl
  replace sg_37 := tS.keptP (b := h0) (j := 0) 19 3 sg_37 rfl o_79 rfl
  replace at_41 := va_at.keptP (b := h0) (j := 0) 22 at_41 o_79 rfl
  replace sg_47 := tS.keptP (b := h0) (j := 0) 23 5 sg_47 rfl o_79 rfl
  replace sg_53 := tS.keptP (b := h0) (j := 0) 28 5 sg_53 rfl o_79 rfl
  replace sg_59 := tS.keptP (b := h0) (j := 0) 33 5 sg_59 rfl o_79 rfl
  replace at_63 := va_at.keptP (b := h0) (j := 0) 38 at_63 o_79 rfl
  replace sg_71 := tS.keptP (b := h0) (j := 0) 39 4 sg_71 rfl o_79 rfl
  replace sg_77 := tS.keptP (b := h0) (j := 0) 43 6 sg_77 rfl o_79 rfl
  clear o_79 hz_80
  refine lv_aload_n hx hb dX9_init_156 rfl (lv_at hl 0 rfl) ?_
  refine nw_new (ci := 7) (fs := [.null, .null, .null]) (C := RX8) (T := TX8) (N := 3) (z := h0 + 49) hx hb hts in8 tyX8 tyX8_ok hown (hts (.classLink RX9 85 RX8) (List.mem_of_getElem? (i := 39) rfl)) (hts (.instantiable RX8 3) (List.mem_of_getElem? (i := 40) rfl)) (hts (.initialized RX8) (List.mem_of_getElem? (i := 41) rfl)) hK rfl df_X8 hS hz (Nat.le_add_right _ _) (Nat.le_of_ble_eq_true rfl) (Nat.le_of_ble_eq_true rfl) dX9_init_157 (fun H at_81 hz o_82 hS => ?_)
  replace at0 := va_at.keptA (b := h0) (z := 49) 0 at0 o_82 (Nat.le_of_ble_eq_true rfl)
  replace sg_3 := tS.keptA (b := h0) (z := 49) 1 3 sg_3 rfl o_82 (Nat.le_of_ble_eq_true rfl)
  replace sg_9 := tS.keptA (b := h0) (z := 49) 4 4 sg_9 rfl o_82 (Nat.le_of_ble_eq_true rfl)
  replace sg_15 := tS.keptA (b := h0) (z := 49) 8 4 sg_15 rfl o_82 (Nat.le_of_ble_eq_true rfl)
  replace sg_21 := tS.keptA (b := h0) (z := 49) 12 4 sg_21 rfl o_82 (Nat.le_of_ble_eq_true rfl)
  replace sg_31 := tS.keptA (b := h0) (z := 49) 16 3 sg_31 rfl o_82 (Nat.le_of_ble_eq_true rfl)
  replace sg_37 := tS.keptA (b := h0) (z := 49) 19 3 sg_37 rfl o_82 (Nat.le_of_ble_eq_true rfl)
  replace at_41 := va_at.keptA (b := h0) (z := 49) 22 at_41 o_82 (Nat.le_of_ble_eq_true rfl)
  replace sg_47 := tS.keptA (b := h0) (z := 49) 23 5 sg_47 rfl o_82 (Nat.le_of_ble_eq_true rfl)
  replace sg_53 := tS.keptA (b := h0) (z := 49) 28 5 sg_53 rfl o_82 (Nat.le_of_ble_eq_true rfl)
  replace sg_59 := tS.keptA (b := h0) (z := 49) 33 5 sg_59 rfl o_82 (Nat.le_of_ble_eq_true rfl)
  replace at_63 := va_at.keptA (b := h0) (z := 49) 38 at_63 o_82 (Nat.le_of_ble_eq_true rfl)
  replace sg_71 := tS.keptA (b := h0) (z := 49) 39 4 sg_71 rfl o_82 (Nat.le_of_ble_eq_true rfl)
  replace sg_77 := tS.keptA (b := h0) (z := 49) 43 6 sg_77 rfl o_82 (Nat.le_of_ble_eq_true rfl)
  clear o_82
  have hz : H.size = h0 + 50 := hz
  refine lv_dup hx hb dX9_init_160 rfl ?_
  refine nw_call (z := h0 + 49) (tRun (va_runIN (As := []) (rest := [.ref (h0 + 49), .ref h0]) ⟨hx, hb, hml, hown, hts⟩ (cc_X8 l D cI cL cC gR (h0 + 49)) ⟨va_cnB 0 hts gX9_init_X8_init_n87 rfl rfl rfl (hE.2.1 _ (List.mem_of_getElem? (i := 4) rfl)) (hts (.initialized RX8) (List.mem_of_getElem? (i := 41) rfl)) (by decide +kernel) ⟨Nat.le_of_ble_eq_true rfl, Nat.le_of_ble_eq_true rfl⟩, rfl, (hts (.instanceMethod yX8_init) (List.mem_of_getElem? (i := 102) rfl))⟩ (cP_I hz at_81 hE) rfl rfl hl.1 rfl (lv_room (Nat.le_of_ble_eq_true rfl)) dX9_init_161 ⟨Nat.le_of_ble_eq_true rfl, Nat.le_of_ble_eq_true rfl⟩)) hS hz (by decide) (Nat.le_add_right _ _) (fun H locs sg_83 hz o_84 hS => ?_)
  replace at0 := va_at.keptA (b := h0) (z := 49) 0 at0 o_84 (Nat.le_of_ble_eq_true rfl)
  replace sg_3 := tS.keptA (b := h0) (z := 49) 1 3 sg_3 rfl o_84 (Nat.le_of_ble_eq_true rfl)
  replace sg_9 := tS.keptA (b := h0) (z := 49) 4 4 sg_9 rfl o_84 (Nat.le_of_ble_eq_true rfl)
  replace sg_15 := tS.keptA (b := h0) (z := 49) 8 4 sg_15 rfl o_84 (Nat.le_of_ble_eq_true rfl)
  replace sg_21 := tS.keptA (b := h0) (z := 49) 12 4 sg_21 rfl o_84 (Nat.le_of_ble_eq_true rfl)
  replace sg_31 := tS.keptA (b := h0) (z := 49) 16 3 sg_31 rfl o_84 (Nat.le_of_ble_eq_true rfl)
  replace sg_37 := tS.keptA (b := h0) (z := 49) 19 3 sg_37 rfl o_84 (Nat.le_of_ble_eq_true rfl)
  replace at_41 := va_at.keptA (b := h0) (z := 49) 22 at_41 o_84 (Nat.le_of_ble_eq_true rfl)
  replace sg_47 := tS.keptA (b := h0) (z := 49) 23 5 sg_47 rfl o_84 (Nat.le_of_ble_eq_true rfl)
  replace sg_53 := tS.keptA (b := h0) (z := 49) 28 5 sg_53 rfl o_84 (Nat.le_of_ble_eq_true rfl)
  replace sg_59 := tS.keptA (b := h0) (z := 49) 33 5 sg_59 rfl o_84 (Nat.le_of_ble_eq_true rfl)
  replace at_63 := va_at.keptA (b := h0) (z := 49) 38 at_63 o_84 (Nat.le_of_ble_eq_true rfl)
  replace sg_71 := tS.keptA (b := h0) (z := 49) 39 4 sg_71 rfl o_84 (Nat.le_of_ble_eq_true rfl)
  replace sg_77 := tS.keptA (b := h0) (z := 49) 43 6 sg_77 rfl o_84 (Nat.le_of_ble_eq_true rfl)
  have hz : H.size = h0 + 53 := tSlen (n := 4) hz rfl
  clear o_84
  have sg_83 : tS D (fF cI cL cC 0 gR) [8, 29, 30, 31] (h0 + 49) H := sg_83
  refine nw_putF (D := D) (ci := 8) (v := .ref (h0 + 49)) (ty := .object "RiverModel$Worlds") (C := RX9) (T := TX9) (N := 18) hx hb hts in9 tyX9 tyX9_ok nmX9 hown hK hS (Nat.le_refl _) at0 rfl 16 (by decide) (hts (.fieldLink RX9 88 "RiverModel" "worlds" "LRiverModel$Worlds;") (List.mem_of_getElem? (i := 42) rfl)) (fun _ h9 => h9) rfl hin rfl (by decide +kernel) rfl rfl (Nat.le_of_ble_eq_true rfl) dX9_init_164 (fun H locs at0 hz_86 o_85 hS => ?_)
  have at0 : va_at D vwCl (h0, .inr (8, [.ref (h0 + 1), .ref (h0 + 4), .ref (h0 + 8), .ref (h0 + 12), .int 0, .int 0, .ref (h0 + 16), .ref (h0 + 19), .ref (h0 + 22), .ref (h0 + 23), .ref (h0 + 28), .ref (h0 + 33), .ref (h0 + 38), .int 0, .ref (h0 + 39), .ref (h0 + 43), .ref (h0 + 49), .null])) H := at0
  replace hz : H.size = h0 + 53 := hz_86.trans hz
  replace sg_3 := tS.keptP (b := h0) (j := 0) 1 3 sg_3 rfl o_85 rfl
  replace sg_9 := tS.keptP (b := h0) (j := 0) 4 4 sg_9 rfl o_85 rfl
  replace sg_15 := tS.keptP (b := h0) (j := 0) 8 4 sg_15 rfl o_85 rfl
  replace sg_21 := tS.keptP (b := h0) (j := 0) 12 4 sg_21 rfl o_85 rfl
  replace sg_31 := tS.keptP (b := h0) (j := 0) 16 3 sg_31 rfl o_85 rfl
  replace sg_37 := tS.keptP (b := h0) (j := 0) 19 3 sg_37 rfl o_85 rfl
  replace at_41 := va_at.keptP (b := h0) (j := 0) 22 at_41 o_85 rfl
  replace sg_47 := tS.keptP (b := h0) (j := 0) 23 5 sg_47 rfl o_85 rfl
  replace sg_53 := tS.keptP (b := h0) (j := 0) 28 5 sg_53 rfl o_85 rfl
  replace sg_59 := tS.keptP (b := h0) (j := 0) 33 5 sg_59 rfl o_85 rfl
  replace at_63 := va_at.keptP (b := h0) (j := 0) 38 at_63 o_85 rfl
  replace sg_71 := tS.keptP (b := h0) (j := 0) 39 4 sg_71 rfl o_85 rfl
  replace sg_77 := tS.keptP (b := h0) (j := 0) 43 6 sg_77 rfl o_85 rfl
  replace sg_83 := tS.keptP (b := h0) (j := 0) 49 4 sg_83 rfl o_85 rfl
  clear o_85 hz_86
  refine lv_pc (pc2 := 167) rfl ?_
  refine lv_aload_n hx hb dX9_init_167 rfl (lv_at hl 0 rfl) ?_
  refine nw_new (ci := 4) (fs := [.null, .null, .null, .int 0, .long 0, .int 0, .int 0, .int 0, .int 0, .long 0]) (C := RX5) (T := TX5) (N := 10) (z := h0 + 53) hx hb hts in5 tyX5 tyX5_ok hown (hts (.classLink RX9 92 RX5) (List.mem_of_getElem? (i := 43) rfl)) (hts (.instantiable RX5 10) (List.mem_of_getElem? (i := 44) rfl)) (hts (.initialized RX5) (List.mem_of_getElem? (i := 45) rfl)) hK rfl df_X5 hS hz (Nat.le_add_right _ _) (Nat.le_of_ble_eq_true rfl) (Nat.le_of_ble_eq_true rfl) dX9_init_168 (fun H at_87 hz o_88 hS => ?_)
  replace at0 := va_at.keptA (b := h0) (z := 53) 0 at0 o_88 (Nat.le_of_ble_eq_true rfl)
  replace sg_3 := tS.keptA (b := h0) (z := 53) 1 3 sg_3 rfl o_88 (Nat.le_of_ble_eq_true rfl)
  replace sg_9 := tS.keptA (b := h0) (z := 53) 4 4 sg_9 rfl o_88 (Nat.le_of_ble_eq_true rfl)
  replace sg_15 := tS.keptA (b := h0) (z := 53) 8 4 sg_15 rfl o_88 (Nat.le_of_ble_eq_true rfl)
  replace sg_21 := tS.keptA (b := h0) (z := 53) 12 4 sg_21 rfl o_88 (Nat.le_of_ble_eq_true rfl)
  replace sg_31 := tS.keptA (b := h0) (z := 53) 16 3 sg_31 rfl o_88 (Nat.le_of_ble_eq_true rfl)
  replace sg_37 := tS.keptA (b := h0) (z := 53) 19 3 sg_37 rfl o_88 (Nat.le_of_ble_eq_true rfl)
  replace at_41 := va_at.keptA (b := h0) (z := 53) 22 at_41 o_88 (Nat.le_of_ble_eq_true rfl)
  replace sg_47 := tS.keptA (b := h0) (z := 53) 23 5 sg_47 rfl o_88 (Nat.le_of_ble_eq_true rfl)
  replace sg_53 := tS.keptA (b := h0) (z := 53) 28 5 sg_53 rfl o_88 (Nat.le_of_ble_eq_true rfl)
  replace sg_59 := tS.keptA (b := h0) (z := 53) 33 5 sg_59 rfl o_88 (Nat.le_of_ble_eq_true rfl)
  replace at_63 := va_at.keptA (b := h0) (z := 53) 38 at_63 o_88 (Nat.le_of_ble_eq_true rfl)
  replace sg_71 := tS.keptA (b := h0) (z := 53) 39 4 sg_71 rfl o_88 (Nat.le_of_ble_eq_true rfl)
  replace sg_77 := tS.keptA (b := h0) (z := 53) 43 6 sg_77 rfl o_88 (Nat.le_of_ble_eq_true rfl)
  replace sg_83 := tS.keptA (b := h0) (z := 53) 49 4 sg_83 rfl o_88 (Nat.le_of_ble_eq_true rfl)
  clear o_88
  have hz : H.size = h0 + 54 := hz
  refine lv_dup hx hb dX9_init_171 rfl ?_
  refine nw_call (z := h0 + 53) (tRun (va_runI (As := []) (rest := [.ref (h0 + 53), .ref h0]) ⟨hx, hb, hml, hown, hts⟩ (cc_X5 l D cI cL cC gR (h0 + 53)) (cwI 0 hts gX9_init_X5_init rfl rfl rfl (hts (.initialized RX5) (List.mem_of_getElem? (i := 45) rfl)) (hts (.methodLink RX9 94 yX5_init) (List.mem_of_getElem? (i := 108) rfl)) (hts (.instanceMethod yX5_init) (List.mem_of_getElem? (i := 109) rfl)) rfl (by decide +kernel) ⟨Nat.le_of_ble_eq_true rfl, Nat.le_of_ble_eq_true rfl⟩) (cP_I hz at_87 hE) rfl rfl hl.1 rfl (lv_room (Nat.le_of_ble_eq_true rfl)) dX9_init_172 ⟨Nat.le_of_ble_eq_true rfl, Nat.le_of_ble_eq_true rfl⟩)) hS hz (by decide) (Nat.le_add_right _ _) (fun H locs sg_89 hz o_90 hS => ?_)
  replace at0 := va_at.keptA (b := h0) (z := 53) 0 at0 o_90 (Nat.le_of_ble_eq_true rfl)
  replace sg_3 := tS.keptA (b := h0) (z := 53) 1 3 sg_3 rfl o_90 (Nat.le_of_ble_eq_true rfl)
  replace sg_9 := tS.keptA (b := h0) (z := 53) 4 4 sg_9 rfl o_90 (Nat.le_of_ble_eq_true rfl)
  replace sg_15 := tS.keptA (b := h0) (z := 53) 8 4 sg_15 rfl o_90 (Nat.le_of_ble_eq_true rfl)
  replace sg_21 := tS.keptA (b := h0) (z := 53) 12 4 sg_21 rfl o_90 (Nat.le_of_ble_eq_true rfl)
  replace sg_31 := tS.keptA (b := h0) (z := 53) 16 3 sg_31 rfl o_90 (Nat.le_of_ble_eq_true rfl)
  replace sg_37 := tS.keptA (b := h0) (z := 53) 19 3 sg_37 rfl o_90 (Nat.le_of_ble_eq_true rfl)
  replace at_41 := va_at.keptA (b := h0) (z := 53) 22 at_41 o_90 (Nat.le_of_ble_eq_true rfl)
  replace sg_47 := tS.keptA (b := h0) (z := 53) 23 5 sg_47 rfl o_90 (Nat.le_of_ble_eq_true rfl)
  replace sg_53 := tS.keptA (b := h0) (z := 53) 28 5 sg_53 rfl o_90 (Nat.le_of_ble_eq_true rfl)
  replace sg_59 := tS.keptA (b := h0) (z := 53) 33 5 sg_59 rfl o_90 (Nat.le_of_ble_eq_true rfl)
  replace at_63 := va_at.keptA (b := h0) (z := 53) 38 at_63 o_90 (Nat.le_of_ble_eq_true rfl)
  replace sg_71 := tS.keptA (b := h0) (z := 53) 39 4 sg_71 rfl o_90 (Nat.le_of_ble_eq_true rfl)
  replace sg_77 := tS.keptA (b := h0) (z := 53) 43 6 sg_77 rfl o_90 (Nat.le_of_ble_eq_true rfl)
  replace sg_83 := tS.keptA (b := h0) (z := 53) 49 4 sg_83 rfl o_90 (Nat.le_of_ble_eq_true rfl)
  have hz : H.size = h0 + 77 := tSlen (n := 24) hz rfl
  clear o_90
  have sg_89 : tS D (fF cI cL cC 0 gR) [9, 32, 33, 34, 5, 17, 18, 19, 20, 5, 17, 18, 19, 20, 5, 17, 18, 19, 20, 5, 17, 18, 19, 20] (h0 + 53) H := sg_89
  refine nw_putF (D := D) (ci := 8) (v := .ref (h0 + 53)) (ty := .object "RiverModel$Search") (C := RX9) (T := TX9) (N := 18) hx hb hts in9 tyX9 tyX9_ok nmX9 hown hK hS (Nat.le_refl _) at0 rfl 17 (by decide) (hts (.fieldLink RX9 95 "RiverModel" "search" "LRiverModel$Search;") (List.mem_of_getElem? (i := 46) rfl)) (fun _ h9 => h9) rfl hin rfl (by decide +kernel) rfl rfl (Nat.le_of_ble_eq_true rfl) dX9_init_175 (fun H locs at0 hz_92 o_91 hS => ?_)
  have at0 : va_at D vwCl (h0, .inr (8, [.ref (h0 + 1), .ref (h0 + 4), .ref (h0 + 8), .ref (h0 + 12), .int 0, .int 0, .ref (h0 + 16), .ref (h0 + 19), .ref (h0 + 22), .ref (h0 + 23), .ref (h0 + 28), .ref (h0 + 33), .ref (h0 + 38), .int 0, .ref (h0 + 39), .ref (h0 + 43), .ref (h0 + 49), .ref (h0 + 53)])) H := at0
  replace hz : H.size = h0 + 77 := hz_92.trans hz
  replace sg_3 := tS.keptP (b := h0) (j := 0) 1 3 sg_3 rfl o_91 rfl
  replace sg_9 := tS.keptP (b := h0) (j := 0) 4 4 sg_9 rfl o_91 rfl
  replace sg_15 := tS.keptP (b := h0) (j := 0) 8 4 sg_15 rfl o_91 rfl
  replace sg_21 := tS.keptP (b := h0) (j := 0) 12 4 sg_21 rfl o_91 rfl
  replace sg_31 := tS.keptP (b := h0) (j := 0) 16 3 sg_31 rfl o_91 rfl
  replace sg_37 := tS.keptP (b := h0) (j := 0) 19 3 sg_37 rfl o_91 rfl
  replace at_41 := va_at.keptP (b := h0) (j := 0) 22 at_41 o_91 rfl
  replace sg_47 := tS.keptP (b := h0) (j := 0) 23 5 sg_47 rfl o_91 rfl
  replace sg_53 := tS.keptP (b := h0) (j := 0) 28 5 sg_53 rfl o_91 rfl
  replace sg_59 := tS.keptP (b := h0) (j := 0) 33 5 sg_59 rfl o_91 rfl
  replace at_63 := va_at.keptP (b := h0) (j := 0) 38 at_63 o_91 rfl
  replace sg_71 := tS.keptP (b := h0) (j := 0) 39 4 sg_71 rfl o_91 rfl
  replace sg_77 := tS.keptP (b := h0) (j := 0) 43 6 sg_77 rfl o_91 rfl
  replace sg_83 := tS.keptP (b := h0) (j := 0) 49 4 sg_83 rfl o_91 rfl
  replace sg_89 := tS.keptP (b := h0) (j := 0) 53 24 sg_89 rfl o_91 rfl
  clear o_91 hz_92
  refine lv_iconst (v := 0) hx hb dX9_init_178 (by decide) ?_
  refine lv_istore_n (lv' := [(1, .int 0), (0, .ref h0)]) hx hb dX9_init_179 rfl hl (by decide) rfl (fun ls hl => ?_)
  refine lv_iload_n hx hb dX9_init_180 rfl (lv_at hl 0 rfl) ?_
  refine lv_pc (pc2 := 181) rfl ?_
  refine lv_iconst (v := 3) hx hb dX9_init_181 (by decide) ?_
  refine lv_icmp_ge (tgt := 204) hx hb dX9_init_182 (by decide) (fun q => absurd q (by decide)) (fun _ => ?_)
  refine lv_aload_n hx hb dX9_init_185 rfl (lv_at hl 1 rfl) ?_
  refine va_get (D := D) (ci := 8) (v := .ref (h0 + 38)) (C := RX9) (T := TX9) (N := 18) hx hb hts in9 hown hK (va_one at0) 0 rfl rfl 12 (by decide) (hts (.fieldLink RX9 63 "RiverModel" "kept" "[LRiverModel$Course;") (List.mem_of_getElem? (i := 29) rfl)) (fun _ h9 => h9) rfl dX9_init_186 ?_
  refine lv_iload_n hx hb dX9_init_189 rfl (lv_at hl 0 rfl) ?_
  refine nw_new (ci := 0) (fs := [.null, .null, .null, .null, .long 0, .long 0, .long 0, .int 0]) (C := RX0) (T := TX0) (N := 8) (z := h0 + 77) hx hb hts in0 tyX0 tyX0_ok hown (hts (.classLink RX9 50 RX0) (List.mem_of_getElem? (i := 23) rfl)) (hts (.instantiable RX0 8) (List.mem_of_getElem? (i := 24) rfl)) (hts (.initialized RX0) (List.mem_of_getElem? (i := 25) rfl)) hK rfl df_X0 hS hz (Nat.le_add_right _ _) (Nat.le_of_ble_eq_true rfl) (Nat.le_of_ble_eq_true rfl) dX9_init_190 (fun H at_93 hz o_94 hS => ?_)
  replace at0 := va_at.keptA (b := h0) (z := 77) 0 at0 o_94 (Nat.le_of_ble_eq_true rfl)
  replace sg_3 := tS.keptA (b := h0) (z := 77) 1 3 sg_3 rfl o_94 (Nat.le_of_ble_eq_true rfl)
  replace sg_9 := tS.keptA (b := h0) (z := 77) 4 4 sg_9 rfl o_94 (Nat.le_of_ble_eq_true rfl)
  replace sg_15 := tS.keptA (b := h0) (z := 77) 8 4 sg_15 rfl o_94 (Nat.le_of_ble_eq_true rfl)
  replace sg_21 := tS.keptA (b := h0) (z := 77) 12 4 sg_21 rfl o_94 (Nat.le_of_ble_eq_true rfl)
  replace sg_31 := tS.keptA (b := h0) (z := 77) 16 3 sg_31 rfl o_94 (Nat.le_of_ble_eq_true rfl)
  replace sg_37 := tS.keptA (b := h0) (z := 77) 19 3 sg_37 rfl o_94 (Nat.le_of_ble_eq_true rfl)
  replace at_41 := va_at.keptA (b := h0) (z := 77) 22 at_41 o_94 (Nat.le_of_ble_eq_true rfl)
  replace sg_47 := tS.keptA (b := h0) (z := 77) 23 5 sg_47 rfl o_94 (Nat.le_of_ble_eq_true rfl)
  replace sg_53 := tS.keptA (b := h0) (z := 77) 28 5 sg_53 rfl o_94 (Nat.le_of_ble_eq_true rfl)
  replace sg_59 := tS.keptA (b := h0) (z := 77) 33 5 sg_59 rfl o_94 (Nat.le_of_ble_eq_true rfl)
  replace at_63 := va_at.keptA (b := h0) (z := 77) 38 at_63 o_94 (Nat.le_of_ble_eq_true rfl)
  replace sg_71 := tS.keptA (b := h0) (z := 77) 39 4 sg_71 rfl o_94 (Nat.le_of_ble_eq_true rfl)
  replace sg_77 := tS.keptA (b := h0) (z := 77) 43 6 sg_77 rfl o_94 (Nat.le_of_ble_eq_true rfl)
  replace sg_83 := tS.keptA (b := h0) (z := 77) 49 4 sg_83 rfl o_94 (Nat.le_of_ble_eq_true rfl)
  replace sg_89 := tS.keptA (b := h0) (z := 77) 53 24 sg_89 rfl o_94 (Nat.le_of_ble_eq_true rfl)
  clear o_94
  have hz : H.size = h0 + 78 := hz
  refine lv_dup hx hb dX9_init_193 rfl ?_
  refine nw_call (z := h0 + 77) (tRun (va_runIN (As := []) (rest := [.ref (h0 + 77), .int 0, .ref (h0 + 38)]) ⟨hx, hb, hml, hown, hts⟩ (cc_X0 l D cI cL cC gR (h0 + 77)) ⟨va_cnB 0 hts gX9_init_X0_init_n52 rfl rfl rfl (hE.2.1 _ (List.mem_of_getElem? (i := 2) rfl)) (hts (.initialized RX0) (List.mem_of_getElem? (i := 25) rfl)) (by decide +kernel) ⟨Nat.le_of_ble_eq_true rfl, Nat.le_of_ble_eq_true rfl⟩, rfl, (hts (.instanceMethod yX0_init) (List.mem_of_getElem? (i := 73) rfl))⟩ (cP_I hz at_93 hE) rfl rfl hl.1 rfl (lv_room (Nat.le_of_ble_eq_true rfl)) dX9_init_194 ⟨Nat.le_of_ble_eq_true rfl, Nat.le_of_ble_eq_true rfl⟩)) hS hz (by decide) (Nat.le_add_right _ _) (fun H locs sg_95 hz o_96 hS => ?_)
  replace at0 := va_at.keptA (b := h0) (z := 77) 0 at0 o_96 (Nat.le_of_ble_eq_true rfl)
  replace sg_3 := tS.keptA (b := h0) (z := 77) 1 3 sg_3 rfl o_96 (Nat.le_of_ble_eq_true rfl)
  replace sg_9 := tS.keptA (b := h0) (z := 77) 4 4 sg_9 rfl o_96 (Nat.le_of_ble_eq_true rfl)
  replace sg_15 := tS.keptA (b := h0) (z := 77) 8 4 sg_15 rfl o_96 (Nat.le_of_ble_eq_true rfl)
  replace sg_21 := tS.keptA (b := h0) (z := 77) 12 4 sg_21 rfl o_96 (Nat.le_of_ble_eq_true rfl)
  replace sg_31 := tS.keptA (b := h0) (z := 77) 16 3 sg_31 rfl o_96 (Nat.le_of_ble_eq_true rfl)
  replace sg_37 := tS.keptA (b := h0) (z := 77) 19 3 sg_37 rfl o_96 (Nat.le_of_ble_eq_true rfl)
  replace at_41 := va_at.keptA (b := h0) (z := 77) 22 at_41 o_96 (Nat.le_of_ble_eq_true rfl)
  replace sg_47 := tS.keptA (b := h0) (z := 77) 23 5 sg_47 rfl o_96 (Nat.le_of_ble_eq_true rfl)
  replace sg_53 := tS.keptA (b := h0) (z := 77) 28 5 sg_53 rfl o_96 (Nat.le_of_ble_eq_true rfl)
  replace sg_59 := tS.keptA (b := h0) (z := 77) 33 5 sg_59 rfl o_96 (Nat.le_of_ble_eq_true rfl)
  replace at_63 := va_at.keptA (b := h0) (z := 77) 38 at_63 o_96 (Nat.le_of_ble_eq_true rfl)
  replace sg_71 := tS.keptA (b := h0) (z := 77) 39 4 sg_71 rfl o_96 (Nat.le_of_ble_eq_true rfl)
  replace sg_77 := tS.keptA (b := h0) (z := 77) 43 6 sg_77 rfl o_96 (Nat.le_of_ble_eq_true rfl)
  replace sg_83 := tS.keptA (b := h0) (z := 77) 49 4 sg_83 rfl o_96 (Nat.le_of_ble_eq_true rfl)
  replace sg_89 := tS.keptA (b := h0) (z := 77) 53 24 sg_89 rfl o_96 (Nat.le_of_ble_eq_true rfl)
  have hz : H.size = h0 + 82 := tSlen (n := 5) hz rfl
  clear o_96
  have sg_95 : tS D (fF cI cL cC 0 gR) [5, 17, 18, 19, 20] (h0 + 77) H := sg_95
  refine lv_pc (pc2 := 197) rfl ?_
  obtain ⟨e_97, at_98, h_99⟩ := sg_95 0 (by decide)
  obtain ⟨_, _, _, _, _, _, _, rfl, _, _, _, _⟩ := h_99 (tK2 [5, 17, 18, 19, 20] (h0 + 77)) (fun j _ => tK2_at _ _ _)
  refine nw_aast hx hb hK hS (Nat.le_add_right _ _) at_63 at_98 (i := 0) (q_in (by decide) (by decide)) dX9_init_197 (fun H locs at_63 hz_101 o_100 hS => ?_)
  have at_63 : va_at D vwCl (h0 + 38, .inl (cC, 3, .inr (.inr (.inr (.inr (va_up (fun _ => none) 0 (some (h0 + 77)))))))) H := at_63
  replace hz : H.size = h0 + 82 := hz_101.trans hz
  clear at_98
  replace at0 := va_at.keptP (b := h0) (j := 38) 0 at0 o_100 rfl
  replace sg_3 := tS.keptP (b := h0) (j := 38) 1 3 sg_3 rfl o_100 rfl
  replace sg_9 := tS.keptP (b := h0) (j := 38) 4 4 sg_9 rfl o_100 rfl
  replace sg_15 := tS.keptP (b := h0) (j := 38) 8 4 sg_15 rfl o_100 rfl
  replace sg_21 := tS.keptP (b := h0) (j := 38) 12 4 sg_21 rfl o_100 rfl
  replace sg_31 := tS.keptP (b := h0) (j := 38) 16 3 sg_31 rfl o_100 rfl
  replace sg_37 := tS.keptP (b := h0) (j := 38) 19 3 sg_37 rfl o_100 rfl
  replace at_41 := va_at.keptP (b := h0) (j := 38) 22 at_41 o_100 rfl
  replace sg_47 := tS.keptP (b := h0) (j := 38) 23 5 sg_47 rfl o_100 rfl
  replace sg_53 := tS.keptP (b := h0) (j := 38) 28 5 sg_53 rfl o_100 rfl
  replace sg_59 := tS.keptP (b := h0) (j := 38) 33 5 sg_59 rfl o_100 rfl
  replace sg_71 := tS.keptP (b := h0) (j := 38) 39 4 sg_71 rfl o_100 rfl
  replace sg_77 := tS.keptP (b := h0) (j := 38) 43 6 sg_77 rfl o_100 rfl
  replace sg_83 := tS.keptP (b := h0) (j := 38) 49 4 sg_83 rfl o_100 rfl
  replace sg_89 := tS.keptP (b := h0) (j := 38) 53 24 sg_89 rfl o_100 rfl
  replace sg_95 := tS.keptP (b := h0) (j := 38) 77 5 sg_95 rfl o_100 rfl
  clear o_100 hz_101
  refine lv_iinc (v := 1) (lv' := [(1, .int 1), (0, .ref h0)]) hx hb dX9_init_198 hl (k := 0) rfl (by decide) (by decide) rfl (fun ls hl => ?_)
  refine lv_goto (tgt := 180) hx hb dX9_init_201 (by decide) ?_
  refine lv_iload_n hx hb dX9_init_180 rfl (lv_at hl 0 rfl) ?_
  refine lv_iconst (v := 3) hx hb dX9_init_181 (by decide) ?_
  refine lv_icmp_ge (tgt := 204) hx hb dX9_init_182 (by decide) (fun q => absurd q (by decide)) (fun _ => ?_)
  refine lv_aload_n hx hb dX9_init_185 rfl (lv_at hl 1 rfl) ?_
  refine va_get (D := D) (ci := 8) (v := .ref (h0 + 38)) (C := RX9) (T := TX9) (N := 18) hx hb hts in9 hown hK (va_one at0) 0 rfl rfl 12 (by decide) (hts (.fieldLink RX9 63 "RiverModel" "kept" "[LRiverModel$Course;") (List.mem_of_getElem? (i := 29) rfl)) (fun _ h9 => h9) rfl dX9_init_186 ?_
  refine lv_pc (pc2 := 189) rfl ?_
  refine lv_iload_n hx hb dX9_init_189 rfl (lv_at hl 0 rfl) ?_
  refine nw_new (ci := 0) (fs := [.null, .null, .null, .null, .long 0, .long 0, .long 0, .int 0]) (C := RX0) (T := TX0) (N := 8) (z := h0 + 82) hx hb hts in0 tyX0 tyX0_ok hown (hts (.classLink RX9 50 RX0) (List.mem_of_getElem? (i := 23) rfl)) (hts (.instantiable RX0 8) (List.mem_of_getElem? (i := 24) rfl)) (hts (.initialized RX0) (List.mem_of_getElem? (i := 25) rfl)) hK rfl df_X0 hS hz (Nat.le_add_right _ _) (Nat.le_of_ble_eq_true rfl) (Nat.le_of_ble_eq_true rfl) dX9_init_190 (fun H at_102 hz o_103 hS => ?_)
  replace at0 := va_at.keptA (b := h0) (z := 82) 0 at0 o_103 (Nat.le_of_ble_eq_true rfl)
  replace sg_3 := tS.keptA (b := h0) (z := 82) 1 3 sg_3 rfl o_103 (Nat.le_of_ble_eq_true rfl)
  replace sg_9 := tS.keptA (b := h0) (z := 82) 4 4 sg_9 rfl o_103 (Nat.le_of_ble_eq_true rfl)
  replace sg_15 := tS.keptA (b := h0) (z := 82) 8 4 sg_15 rfl o_103 (Nat.le_of_ble_eq_true rfl)
  replace sg_21 := tS.keptA (b := h0) (z := 82) 12 4 sg_21 rfl o_103 (Nat.le_of_ble_eq_true rfl)
  replace sg_31 := tS.keptA (b := h0) (z := 82) 16 3 sg_31 rfl o_103 (Nat.le_of_ble_eq_true rfl)
  replace sg_37 := tS.keptA (b := h0) (z := 82) 19 3 sg_37 rfl o_103 (Nat.le_of_ble_eq_true rfl)
  replace at_41 := va_at.keptA (b := h0) (z := 82) 22 at_41 o_103 (Nat.le_of_ble_eq_true rfl)
  replace sg_47 := tS.keptA (b := h0) (z := 82) 23 5 sg_47 rfl o_103 (Nat.le_of_ble_eq_true rfl)
  replace sg_53 := tS.keptA (b := h0) (z := 82) 28 5 sg_53 rfl o_103 (Nat.le_of_ble_eq_true rfl)
  replace sg_59 := tS.keptA (b := h0) (z := 82) 33 5 sg_59 rfl o_103 (Nat.le_of_ble_eq_true rfl)
  replace at_63 := va_at.keptA (b := h0) (z := 82) 38 at_63 o_103 (Nat.le_of_ble_eq_true rfl)
  replace sg_71 := tS.keptA (b := h0) (z := 82) 39 4 sg_71 rfl o_103 (Nat.le_of_ble_eq_true rfl)
  replace sg_77 := tS.keptA (b := h0) (z := 82) 43 6 sg_77 rfl o_103 (Nat.le_of_ble_eq_true rfl)
  replace sg_83 := tS.keptA (b := h0) (z := 82) 49 4 sg_83 rfl o_103 (Nat.le_of_ble_eq_true rfl)
  replace sg_89 := tS.keptA (b := h0) (z := 82) 53 24 sg_89 rfl o_103 (Nat.le_of_ble_eq_true rfl)
  replace sg_95 := tS.keptA (b := h0) (z := 82) 77 5 sg_95 rfl o_103 (Nat.le_of_ble_eq_true rfl)
  clear o_103
  have hz : H.size = h0 + 83 := hz
  refine lv_dup hx hb dX9_init_193 rfl ?_
  refine nw_call (z := h0 + 82) (tRun (va_runIN (As := []) (rest := [.ref (h0 + 82), .int 1, .ref (h0 + 38)]) ⟨hx, hb, hml, hown, hts⟩ (cc_X0 l D cI cL cC gR (h0 + 82)) ⟨va_cnB 0 hts gX9_init_X0_init_n52 rfl rfl rfl (hE.2.1 _ (List.mem_of_getElem? (i := 2) rfl)) (hts (.initialized RX0) (List.mem_of_getElem? (i := 25) rfl)) (by decide +kernel) ⟨Nat.le_of_ble_eq_true rfl, Nat.le_of_ble_eq_true rfl⟩, rfl, (hts (.instanceMethod yX0_init) (List.mem_of_getElem? (i := 73) rfl))⟩ (cP_I hz at_102 hE) rfl rfl hl.1 rfl (lv_room (Nat.le_of_ble_eq_true rfl)) dX9_init_194 ⟨Nat.le_of_ble_eq_true rfl, Nat.le_of_ble_eq_true rfl⟩)) hS hz (by decide) (Nat.le_add_right _ _) (fun H locs sg_104 hz o_105 hS => ?_)
  replace at0 := va_at.keptA (b := h0) (z := 82) 0 at0 o_105 (Nat.le_of_ble_eq_true rfl)
  replace sg_3 := tS.keptA (b := h0) (z := 82) 1 3 sg_3 rfl o_105 (Nat.le_of_ble_eq_true rfl)
  replace sg_9 := tS.keptA (b := h0) (z := 82) 4 4 sg_9 rfl o_105 (Nat.le_of_ble_eq_true rfl)
  replace sg_15 := tS.keptA (b := h0) (z := 82) 8 4 sg_15 rfl o_105 (Nat.le_of_ble_eq_true rfl)
  replace sg_21 := tS.keptA (b := h0) (z := 82) 12 4 sg_21 rfl o_105 (Nat.le_of_ble_eq_true rfl)
  replace sg_31 := tS.keptA (b := h0) (z := 82) 16 3 sg_31 rfl o_105 (Nat.le_of_ble_eq_true rfl)
  replace sg_37 := tS.keptA (b := h0) (z := 82) 19 3 sg_37 rfl o_105 (Nat.le_of_ble_eq_true rfl)
  replace at_41 := va_at.keptA (b := h0) (z := 82) 22 at_41 o_105 (Nat.le_of_ble_eq_true rfl)
  replace sg_47 := tS.keptA (b := h0) (z := 82) 23 5 sg_47 rfl o_105 (Nat.le_of_ble_eq_true rfl)
  replace sg_53 := tS.keptA (b := h0) (z := 82) 28 5 sg_53 rfl o_105 (Nat.le_of_ble_eq_true rfl)
  replace sg_59 := tS.keptA (b := h0) (z := 82) 33 5 sg_59 rfl o_105 (Nat.le_of_ble_eq_true rfl)
  replace at_63 := va_at.keptA (b := h0) (z := 82) 38 at_63 o_105 (Nat.le_of_ble_eq_true rfl)
  replace sg_71 := tS.keptA (b := h0) (z := 82) 39 4 sg_71 rfl o_105 (Nat.le_of_ble_eq_true rfl)
  replace sg_77 := tS.keptA (b := h0) (z := 82) 43 6 sg_77 rfl o_105 (Nat.le_of_ble_eq_true rfl)
  replace sg_83 := tS.keptA (b := h0) (z := 82) 49 4 sg_83 rfl o_105 (Nat.le_of_ble_eq_true rfl)
  replace sg_89 := tS.keptA (b := h0) (z := 82) 53 24 sg_89 rfl o_105 (Nat.le_of_ble_eq_true rfl)
  replace sg_95 := tS.keptA (b := h0) (z := 82) 77 5 sg_95 rfl o_105 (Nat.le_of_ble_eq_true rfl)
  have hz : H.size = h0 + 87 := tSlen (n := 5) hz rfl
  clear o_105
  have sg_104 : tS D (fF cI cL cC 0 gR) [5, 17, 18, 19, 20] (h0 + 82) H := sg_104
  obtain ⟨e_106, at_107, h_108⟩ := sg_104 0 (by decide)
  obtain ⟨_, _, _, _, _, _, _, rfl, _, _, _, _⟩ := h_108 (tK2 [5, 17, 18, 19, 20] (h0 + 82)) (fun j _ => tK2_at _ _ _)
  refine nw_aast hx hb hK hS (Nat.le_add_right _ _) at_63 at_107 (i := 1) (q_in (by decide) (by decide)) dX9_init_197 (fun H locs at_63 hz_110 o_109 hS => ?_)
  have at_63 : va_at D vwCl (h0 + 38, .inl (cC, 3, .inr (.inr (.inr (.inr (va_up (va_up (fun _ => none) 0 (some (h0 + 77))) 1 (some (h0 + 82)))))))) H := at_63
  replace hz : H.size = h0 + 87 := hz_110.trans hz
  clear at_107
  replace at0 := va_at.keptP (b := h0) (j := 38) 0 at0 o_109 rfl
  replace sg_3 := tS.keptP (b := h0) (j := 38) 1 3 sg_3 rfl o_109 rfl
  replace sg_9 := tS.keptP (b := h0) (j := 38) 4 4 sg_9 rfl o_109 rfl
  replace sg_15 := tS.keptP (b := h0) (j := 38) 8 4 sg_15 rfl o_109 rfl
  replace sg_21 := tS.keptP (b := h0) (j := 38) 12 4 sg_21 rfl o_109 rfl
  replace sg_31 := tS.keptP (b := h0) (j := 38) 16 3 sg_31 rfl o_109 rfl
  replace sg_37 := tS.keptP (b := h0) (j := 38) 19 3 sg_37 rfl o_109 rfl
  replace at_41 := va_at.keptP (b := h0) (j := 38) 22 at_41 o_109 rfl
  replace sg_47 := tS.keptP (b := h0) (j := 38) 23 5 sg_47 rfl o_109 rfl
  replace sg_53 := tS.keptP (b := h0) (j := 38) 28 5 sg_53 rfl o_109 rfl
  replace sg_59 := tS.keptP (b := h0) (j := 38) 33 5 sg_59 rfl o_109 rfl
  replace sg_71 := tS.keptP (b := h0) (j := 38) 39 4 sg_71 rfl o_109 rfl
  replace sg_77 := tS.keptP (b := h0) (j := 38) 43 6 sg_77 rfl o_109 rfl
  replace sg_83 := tS.keptP (b := h0) (j := 38) 49 4 sg_83 rfl o_109 rfl
  replace sg_89 := tS.keptP (b := h0) (j := 38) 53 24 sg_89 rfl o_109 rfl
  replace sg_95 := tS.keptP (b := h0) (j := 38) 77 5 sg_95 rfl o_109 rfl
  replace sg_104 := tS.keptP (b := h0) (j := 38) 82 5 sg_104 rfl o_109 rfl
  clear o_109 hz_110
  refine lv_iinc (v := 2) (lv' := [(1, .int 2), (0, .ref h0)]) hx hb dX9_init_198 hl (k := 0) rfl (by decide) (by decide) rfl (fun ls hl => ?_)
  refine lv_goto (tgt := 180) hx hb dX9_init_201 (by decide) ?_
  refine lv_iload_n hx hb dX9_init_180 rfl (lv_at hl 0 rfl) ?_
  refine lv_pc (pc2 := 181) rfl ?_
  refine lv_iconst (v := 3) hx hb dX9_init_181 (by decide) ?_
  refine lv_icmp_ge (tgt := 204) hx hb dX9_init_182 (by decide) (fun q => absurd q (by decide)) (fun _ => ?_)
  refine lv_aload_n hx hb dX9_init_185 rfl (lv_at hl 1 rfl) ?_
  refine va_get (D := D) (ci := 8) (v := .ref (h0 + 38)) (C := RX9) (T := TX9) (N := 18) hx hb hts in9 hown hK (va_one at0) 0 rfl rfl 12 (by decide) (hts (.fieldLink RX9 63 "RiverModel" "kept" "[LRiverModel$Course;") (List.mem_of_getElem? (i := 29) rfl)) (fun _ h9 => h9) rfl dX9_init_186 ?_
  refine lv_iload_n hx hb dX9_init_189 rfl (lv_at hl 0 rfl) ?_
  refine nw_new (ci := 0) (fs := [.null, .null, .null, .null, .long 0, .long 0, .long 0, .int 0]) (C := RX0) (T := TX0) (N := 8) (z := h0 + 87) hx hb hts in0 tyX0 tyX0_ok hown (hts (.classLink RX9 50 RX0) (List.mem_of_getElem? (i := 23) rfl)) (hts (.instantiable RX0 8) (List.mem_of_getElem? (i := 24) rfl)) (hts (.initialized RX0) (List.mem_of_getElem? (i := 25) rfl)) hK rfl df_X0 hS hz (Nat.le_add_right _ _) (Nat.le_of_ble_eq_true rfl) (Nat.le_of_ble_eq_true rfl) dX9_init_190 (fun H at_111 hz o_112 hS => ?_)
  replace at0 := va_at.keptA (b := h0) (z := 87) 0 at0 o_112 (Nat.le_of_ble_eq_true rfl)
  replace sg_3 := tS.keptA (b := h0) (z := 87) 1 3 sg_3 rfl o_112 (Nat.le_of_ble_eq_true rfl)
  replace sg_9 := tS.keptA (b := h0) (z := 87) 4 4 sg_9 rfl o_112 (Nat.le_of_ble_eq_true rfl)
  replace sg_15 := tS.keptA (b := h0) (z := 87) 8 4 sg_15 rfl o_112 (Nat.le_of_ble_eq_true rfl)
  replace sg_21 := tS.keptA (b := h0) (z := 87) 12 4 sg_21 rfl o_112 (Nat.le_of_ble_eq_true rfl)
  replace sg_31 := tS.keptA (b := h0) (z := 87) 16 3 sg_31 rfl o_112 (Nat.le_of_ble_eq_true rfl)
  replace sg_37 := tS.keptA (b := h0) (z := 87) 19 3 sg_37 rfl o_112 (Nat.le_of_ble_eq_true rfl)
  replace at_41 := va_at.keptA (b := h0) (z := 87) 22 at_41 o_112 (Nat.le_of_ble_eq_true rfl)
  replace sg_47 := tS.keptA (b := h0) (z := 87) 23 5 sg_47 rfl o_112 (Nat.le_of_ble_eq_true rfl)
  replace sg_53 := tS.keptA (b := h0) (z := 87) 28 5 sg_53 rfl o_112 (Nat.le_of_ble_eq_true rfl)
  replace sg_59 := tS.keptA (b := h0) (z := 87) 33 5 sg_59 rfl o_112 (Nat.le_of_ble_eq_true rfl)
  replace at_63 := va_at.keptA (b := h0) (z := 87) 38 at_63 o_112 (Nat.le_of_ble_eq_true rfl)
  replace sg_71 := tS.keptA (b := h0) (z := 87) 39 4 sg_71 rfl o_112 (Nat.le_of_ble_eq_true rfl)
  replace sg_77 := tS.keptA (b := h0) (z := 87) 43 6 sg_77 rfl o_112 (Nat.le_of_ble_eq_true rfl)
  replace sg_83 := tS.keptA (b := h0) (z := 87) 49 4 sg_83 rfl o_112 (Nat.le_of_ble_eq_true rfl)
  replace sg_89 := tS.keptA (b := h0) (z := 87) 53 24 sg_89 rfl o_112 (Nat.le_of_ble_eq_true rfl)
  replace sg_95 := tS.keptA (b := h0) (z := 87) 77 5 sg_95 rfl o_112 (Nat.le_of_ble_eq_true rfl)
  replace sg_104 := tS.keptA (b := h0) (z := 87) 82 5 sg_104 rfl o_112 (Nat.le_of_ble_eq_true rfl)
  clear o_112
  have hz : H.size = h0 + 88 := hz
  refine lv_dup hx hb dX9_init_193 rfl ?_
  refine nw_call (z := h0 + 87) (tRun (va_runIN (As := []) (rest := [.ref (h0 + 87), .int 2, .ref (h0 + 38)]) ⟨hx, hb, hml, hown, hts⟩ (cc_X0 l D cI cL cC gR (h0 + 87)) ⟨va_cnB 0 hts gX9_init_X0_init_n52 rfl rfl rfl (hE.2.1 _ (List.mem_of_getElem? (i := 2) rfl)) (hts (.initialized RX0) (List.mem_of_getElem? (i := 25) rfl)) (by decide +kernel) ⟨Nat.le_of_ble_eq_true rfl, Nat.le_of_ble_eq_true rfl⟩, rfl, (hts (.instanceMethod yX0_init) (List.mem_of_getElem? (i := 73) rfl))⟩ (cP_I hz at_111 hE) rfl rfl hl.1 rfl (lv_room (Nat.le_of_ble_eq_true rfl)) dX9_init_194 ⟨Nat.le_of_ble_eq_true rfl, Nat.le_of_ble_eq_true rfl⟩)) hS hz (by decide) (Nat.le_add_right _ _) (fun H locs sg_113 hz o_114 hS => ?_)
  replace at0 := va_at.keptA (b := h0) (z := 87) 0 at0 o_114 (Nat.le_of_ble_eq_true rfl)
  replace sg_3 := tS.keptA (b := h0) (z := 87) 1 3 sg_3 rfl o_114 (Nat.le_of_ble_eq_true rfl)
  replace sg_9 := tS.keptA (b := h0) (z := 87) 4 4 sg_9 rfl o_114 (Nat.le_of_ble_eq_true rfl)
  replace sg_15 := tS.keptA (b := h0) (z := 87) 8 4 sg_15 rfl o_114 (Nat.le_of_ble_eq_true rfl)
  replace sg_21 := tS.keptA (b := h0) (z := 87) 12 4 sg_21 rfl o_114 (Nat.le_of_ble_eq_true rfl)
  replace sg_31 := tS.keptA (b := h0) (z := 87) 16 3 sg_31 rfl o_114 (Nat.le_of_ble_eq_true rfl)
  replace sg_37 := tS.keptA (b := h0) (z := 87) 19 3 sg_37 rfl o_114 (Nat.le_of_ble_eq_true rfl)
  replace at_41 := va_at.keptA (b := h0) (z := 87) 22 at_41 o_114 (Nat.le_of_ble_eq_true rfl)
  replace sg_47 := tS.keptA (b := h0) (z := 87) 23 5 sg_47 rfl o_114 (Nat.le_of_ble_eq_true rfl)
  replace sg_53 := tS.keptA (b := h0) (z := 87) 28 5 sg_53 rfl o_114 (Nat.le_of_ble_eq_true rfl)
  replace sg_59 := tS.keptA (b := h0) (z := 87) 33 5 sg_59 rfl o_114 (Nat.le_of_ble_eq_true rfl)
  replace at_63 := va_at.keptA (b := h0) (z := 87) 38 at_63 o_114 (Nat.le_of_ble_eq_true rfl)
  replace sg_71 := tS.keptA (b := h0) (z := 87) 39 4 sg_71 rfl o_114 (Nat.le_of_ble_eq_true rfl)
  replace sg_77 := tS.keptA (b := h0) (z := 87) 43 6 sg_77 rfl o_114 (Nat.le_of_ble_eq_true rfl)
  replace sg_83 := tS.keptA (b := h0) (z := 87) 49 4 sg_83 rfl o_114 (Nat.le_of_ble_eq_true rfl)
  replace sg_89 := tS.keptA (b := h0) (z := 87) 53 24 sg_89 rfl o_114 (Nat.le_of_ble_eq_true rfl)
  replace sg_95 := tS.keptA (b := h0) (z := 87) 77 5 sg_95 rfl o_114 (Nat.le_of_ble_eq_true rfl)
  replace sg_104 := tS.keptA (b := h0) (z := 87) 82 5 sg_104 rfl o_114 (Nat.le_of_ble_eq_true rfl)
  have hz : H.size = h0 + 92 := tSlen (n := 5) hz rfl
  clear o_114
  have sg_113 : tS D (fF cI cL cC 0 gR) [5, 17, 18, 19, 20] (h0 + 87) H := sg_113
  refine lv_pc (pc2 := 197) rfl ?_
  obtain ⟨e_115, at_116, h_117⟩ := sg_113 0 (by decide)
  obtain ⟨_, _, _, _, _, _, _, rfl, _, _, _, _⟩ := h_117 (tK2 [5, 17, 18, 19, 20] (h0 + 87)) (fun j _ => tK2_at _ _ _)
  refine nw_aast hx hb hK hS (Nat.le_add_right _ _) at_63 at_116 (i := 2) (q_in (by decide) (by decide)) dX9_init_197 (fun H locs at_63 hz_119 o_118 hS => ?_)
  have at_63 : va_at D vwCl (h0 + 38, .inl (cC, 3, .inr (.inr (.inr (.inr (va_up (va_up (va_up (fun _ => none) 0 (some (h0 + 77))) 1 (some (h0 + 82))) 2 (some (h0 + 87)))))))) H := at_63
  replace hz : H.size = h0 + 92 := hz_119.trans hz
  clear at_116
  replace at0 := va_at.keptP (b := h0) (j := 38) 0 at0 o_118 rfl
  replace sg_3 := tS.keptP (b := h0) (j := 38) 1 3 sg_3 rfl o_118 rfl
  replace sg_9 := tS.keptP (b := h0) (j := 38) 4 4 sg_9 rfl o_118 rfl
  replace sg_15 := tS.keptP (b := h0) (j := 38) 8 4 sg_15 rfl o_118 rfl
  replace sg_21 := tS.keptP (b := h0) (j := 38) 12 4 sg_21 rfl o_118 rfl
  replace sg_31 := tS.keptP (b := h0) (j := 38) 16 3 sg_31 rfl o_118 rfl
  replace sg_37 := tS.keptP (b := h0) (j := 38) 19 3 sg_37 rfl o_118 rfl
  replace at_41 := va_at.keptP (b := h0) (j := 38) 22 at_41 o_118 rfl
  replace sg_47 := tS.keptP (b := h0) (j := 38) 23 5 sg_47 rfl o_118 rfl
  replace sg_53 := tS.keptP (b := h0) (j := 38) 28 5 sg_53 rfl o_118 rfl
  replace sg_59 := tS.keptP (b := h0) (j := 38) 33 5 sg_59 rfl o_118 rfl
  replace sg_71 := tS.keptP (b := h0) (j := 38) 39 4 sg_71 rfl o_118 rfl
  replace sg_77 := tS.keptP (b := h0) (j := 38) 43 6 sg_77 rfl o_118 rfl
  replace sg_83 := tS.keptP (b := h0) (j := 38) 49 4 sg_83 rfl o_118 rfl
  replace sg_89 := tS.keptP (b := h0) (j := 38) 53 24 sg_89 rfl o_118 rfl
  replace sg_95 := tS.keptP (b := h0) (j := 38) 77 5 sg_95 rfl o_118 rfl
  replace sg_104 := tS.keptP (b := h0) (j := 38) 82 5 sg_104 rfl o_118 rfl
  replace sg_113 := tS.keptP (b := h0) (j := 38) 87 5 sg_113 rfl o_118 rfl
  clear o_118 hz_119
  refine lv_iinc (v := 3) (lv' := [(1, .int 3), (0, .ref h0)]) hx hb dX9_init_198 hl (k := 0) rfl (by decide) (by decide) rfl (fun ls hl => ?_)
  refine lv_goto (tgt := 180) hx hb dX9_init_201 (by decide) ?_
  refine lv_iload_n hx hb dX9_init_180 rfl (lv_at hl 0 rfl) ?_
  refine lv_iconst (v := 3) hx hb dX9_init_181 (by decide) ?_
  refine lv_icmp_ge (tgt := 204) hx hb dX9_init_182 (by decide) (fun _ => ?_) (fun q => absurd (by decide) q)
  have sg_120 : tS D (fF cI cL cC 0 gR) [35] (h0 + 22) H := tS.one at_41 (fun t => ⟨_, rfl⟩)
  have sj_122 : tS D (fF cI cL cC 0 gR) [5, 17, 18, 19, 20, 5, 17, 18, 19, 20] (h0 + 82) H := tS.app3 5 sg_104 sg_113 rfl rfl
  have sj_123 : tS D (fF cI cL cC 0 gR) [5, 17, 18, 19, 20, 5, 17, 18, 19, 20, 5, 17, 18, 19, 20] (h0 + 77) H := tS.app3 5 sg_95 sj_122 rfl rfl
  have sj_124 : tS D (fF cI cL cC 0 gR) [9, 32, 33, 34, 5, 17, 18, 19, 20, 5, 17, 18, 19, 20, 5, 17, 18, 19, 20, 5, 17, 18, 19, 20, 5, 17, 18, 19, 20, 5, 17, 18, 19, 20, 5, 17, 18, 19, 20] (h0 + 53) H := tS.app3 24 sg_89 sj_123 rfl rfl
  have sj_125 : tS D (fF cI cL cC 0 gR) [8, 29, 30, 31, 9, 32, 33, 34, 5, 17, 18, 19, 20, 5, 17, 18, 19, 20, 5, 17, 18, 19, 20, 5, 17, 18, 19, 20, 5, 17, 18, 19, 20, 5, 17, 18, 19, 20, 5, 17, 18, 19, 20] (h0 + 49) H := tS.app3 4 sg_83 sj_124 rfl rfl
  have sj_126 : tS D (fF cI cL cC 0 gR) [7, 24, 25, 26, 27, 28, 8, 29, 30, 31, 9, 32, 33, 34, 5, 17, 18, 19, 20, 5, 17, 18, 19, 20, 5, 17, 18, 19, 20, 5, 17, 18, 19, 20, 5, 17, 18, 19, 20, 5, 17, 18, 19, 20, 5, 17, 18, 19, 20] (h0 + 43) H := tS.app3 6 sg_77 sj_125 rfl rfl
  have sj_127 : tS D (fF cI cL cC 0 gR) [6, 21, 22, 23, 7, 24, 25, 26, 27, 28, 8, 29, 30, 31, 9, 32, 33, 34, 5, 17, 18, 19, 20, 5, 17, 18, 19, 20, 5, 17, 18, 19, 20, 5, 17, 18, 19, 20, 5, 17, 18, 19, 20, 5, 17, 18, 19, 20, 5, 17, 18, 19, 20] (h0 + 39) H := tS.app3 4 sg_71 sj_126 rfl rfl
  have sj_128 : tS D (fF cI cL cC 0 gR) [36, 6, 21, 22, 23, 7, 24, 25, 26, 27, 28, 8, 29, 30, 31, 9, 32, 33, 34, 5, 17, 18, 19, 20, 5, 17, 18, 19, 20, 5, 17, 18, 19, 20, 5, 17, 18, 19, 20, 5, 17, 18, 19, 20, 5, 17, 18, 19, 20, 5, 17, 18, 19, 20] (h0 + 38) H := by
    refine tS.cons at_63 sj_127 (fun t h1 ht => ⟨_, rfl, fun j hj => ?_⟩)
    rcases lt3 hj with rfl | rfl | rfl
    · exact ⟨h0 + 77, rfl, ht 38 (by decide)⟩
    · exact ⟨h0 + 82, rfl, ht 43 (by decide)⟩
    · exact ⟨h0 + 87, rfl, ht 48 (by decide)⟩
  have sj_129 : tS D (fF cI cL cC 0 gR) [5, 17, 18, 19, 20, 36, 6, 21, 22, 23, 7, 24, 25, 26, 27, 28, 8, 29, 30, 31, 9, 32, 33, 34, 5, 17, 18, 19, 20, 5, 17, 18, 19, 20, 5, 17, 18, 19, 20, 5, 17, 18, 19, 20, 5, 17, 18, 19, 20, 5, 17, 18, 19, 20, 5, 17, 18, 19, 20] (h0 + 33) H := tS.app3 5 sg_59 sj_128 rfl rfl
  have sj_130 : tS D (fF cI cL cC 0 gR) [5, 17, 18, 19, 20, 5, 17, 18, 19, 20, 36, 6, 21, 22, 23, 7, 24, 25, 26, 27, 28, 8, 29, 30, 31, 9, 32, 33, 34, 5, 17, 18, 19, 20, 5, 17, 18, 19, 20, 5, 17, 18, 19, 20, 5, 17, 18, 19, 20, 5, 17, 18, 19, 20, 5, 17, 18, 19, 20, 5, 17, 18, 19, 20] (h0 + 28) H := tS.app3 5 sg_53 sj_129 rfl rfl
  have sj_131 : tS D (fF cI cL cC 0 gR) [5, 17, 18, 19, 20, 5, 17, 18, 19, 20, 5, 17, 18, 19, 20, 36, 6, 21, 22, 23, 7, 24, 25, 26, 27, 28, 8, 29, 30, 31, 9, 32, 33, 34, 5, 17, 18, 19, 20, 5, 17, 18, 19, 20, 5, 17, 18, 19, 20, 5, 17, 18, 19, 20, 5, 17, 18, 19, 20, 5, 17, 18, 19, 20, 5, 17, 18, 19, 20] (h0 + 23) H := tS.app3 5 sg_47 sj_130 rfl rfl
  have sj_132 : tS D (fF cI cL cC 0 gR) [35, 5, 17, 18, 19, 20, 5, 17, 18, 19, 20, 5, 17, 18, 19, 20, 36, 6, 21, 22, 23, 7, 24, 25, 26, 27, 28, 8, 29, 30, 31, 9, 32, 33, 34, 5, 17, 18, 19, 20, 5, 17, 18, 19, 20, 5, 17, 18, 19, 20, 5, 17, 18, 19, 20, 5, 17, 18, 19, 20, 5, 17, 18, 19, 20, 5, 17, 18, 19, 20] (h0 + 22) H := tS.app3 1 sg_120 sj_131 rfl rfl
  have sj_133 : tS D (fF cI cL cC 0 gR) [4, 15, 16, 35, 5, 17, 18, 19, 20, 5, 17, 18, 19, 20, 5, 17, 18, 19, 20, 36, 6, 21, 22, 23, 7, 24, 25, 26, 27, 28, 8, 29, 30, 31, 9, 32, 33, 34, 5, 17, 18, 19, 20, 5, 17, 18, 19, 20, 5, 17, 18, 19, 20, 5, 17, 18, 19, 20, 5, 17, 18, 19, 20, 5, 17, 18, 19, 20, 5, 17, 18, 19, 20] (h0 + 19) H := tS.app3 3 sg_37 sj_132 rfl rfl
  have sj_134 : tS D (fF cI cL cC 0 gR) [4, 15, 16, 4, 15, 16, 35, 5, 17, 18, 19, 20, 5, 17, 18, 19, 20, 5, 17, 18, 19, 20, 36, 6, 21, 22, 23, 7, 24, 25, 26, 27, 28, 8, 29, 30, 31, 9, 32, 33, 34, 5, 17, 18, 19, 20, 5, 17, 18, 19, 20, 5, 17, 18, 19, 20, 5, 17, 18, 19, 20, 5, 17, 18, 19, 20, 5, 17, 18, 19, 20, 5, 17, 18, 19, 20] (h0 + 16) H := tS.app3 3 sg_31 sj_133 rfl rfl
  have sj_135 : tS D (fF cI cL cC 0 gR) [3, 12, 13, 14, 4, 15, 16, 4, 15, 16, 35, 5, 17, 18, 19, 20, 5, 17, 18, 19, 20, 5, 17, 18, 19, 20, 36, 6, 21, 22, 23, 7, 24, 25, 26, 27, 28, 8, 29, 30, 31, 9, 32, 33, 34, 5, 17, 18, 19, 20, 5, 17, 18, 19, 20, 5, 17, 18, 19, 20, 5, 17, 18, 19, 20, 5, 17, 18, 19, 20, 5, 17, 18, 19, 20, 5, 17, 18, 19, 20] (h0 + 12) H := tS.app3 4 sg_21 sj_134 rfl rfl
  have sj_136 : tS D (fF cI cL cC 0 gR) [3, 12, 13, 14, 3, 12, 13, 14, 4, 15, 16, 4, 15, 16, 35, 5, 17, 18, 19, 20, 5, 17, 18, 19, 20, 5, 17, 18, 19, 20, 36, 6, 21, 22, 23, 7, 24, 25, 26, 27, 28, 8, 29, 30, 31, 9, 32, 33, 34, 5, 17, 18, 19, 20, 5, 17, 18, 19, 20, 5, 17, 18, 19, 20, 5, 17, 18, 19, 20, 5, 17, 18, 19, 20, 5, 17, 18, 19, 20, 5, 17, 18, 19, 20] (h0 + 8) H := tS.app3 4 sg_15 sj_135 rfl rfl
  have sj_137 : tS D (fF cI cL cC 0 gR) [3, 12, 13, 14, 3, 12, 13, 14, 3, 12, 13, 14, 4, 15, 16, 4, 15, 16, 35, 5, 17, 18, 19, 20, 5, 17, 18, 19, 20, 5, 17, 18, 19, 20, 36, 6, 21, 22, 23, 7, 24, 25, 26, 27, 28, 8, 29, 30, 31, 9, 32, 33, 34, 5, 17, 18, 19, 20, 5, 17, 18, 19, 20, 5, 17, 18, 19, 20, 5, 17, 18, 19, 20, 5, 17, 18, 19, 20, 5, 17, 18, 19, 20, 5, 17, 18, 19, 20] (h0 + 4) H := tS.app3 4 sg_9 sj_136 rfl rfl
  have sj_138 : tS D (fF cI cL cC 0 gR) [2, 10, 11, 3, 12, 13, 14, 3, 12, 13, 14, 3, 12, 13, 14, 4, 15, 16, 4, 15, 16, 35, 5, 17, 18, 19, 20, 5, 17, 18, 19, 20, 5, 17, 18, 19, 20, 36, 6, 21, 22, 23, 7, 24, 25, 26, 27, 28, 8, 29, 30, 31, 9, 32, 33, 34, 5, 17, 18, 19, 20, 5, 17, 18, 19, 20, 5, 17, 18, 19, 20, 5, 17, 18, 19, 20, 5, 17, 18, 19, 20, 5, 17, 18, 19, 20, 5, 17, 18, 19, 20] (h0 + 1) H := tS.app3 3 sg_3 sj_137 rfl rfl
  have hT : tS D (fF cI cL cC 0 gR) [2, 10, 11, 3, 12, 13, 14, 3, 12, 13, 14, 3, 12, 13, 14, 4, 15, 16, 4, 15, 16, 35, 5, 17, 18, 19, 20, 5, 17, 18, 19, 20, 5, 17, 18, 19, 20, 36, 6, 21, 22, 23, 7, 24, 25, 26, 27, 28, 8, 29, 30, 31, 9, 32, 33, 34, 5, 17, 18, 19, 20, 5, 17, 18, 19, 20, 5, 17, 18, 19, 20, 5, 17, 18, 19, 20, 5, 17, 18, 19, 20, 5, 17, 18, 19, 20, 5, 17, 18, 19, 20] (h0 + 1) H := sj_138
  have hT : tS D (fF cI cL cC 0 gR) [1, 2, 10, 11, 3, 12, 13, 14, 3, 12, 13, 14, 3, 12, 13, 14, 4, 15, 16, 4, 15, 16, 35, 5, 17, 18, 19, 20, 5, 17, 18, 19, 20, 5, 17, 18, 19, 20, 36, 6, 21, 22, 23, 7, 24, 25, 26, 27, 28, 8, 29, 30, 31, 9, 32, 33, 34, 5, 17, 18, 19, 20, 5, 17, 18, 19, 20, 5, 17, 18, 19, 20, 5, 17, 18, 19, 20, 5, 17, 18, 19, 20, 5, 17, 18, 19, 20, 5, 17, 18, 19, 20] h0 H := tS.cons at0 hT (fun t h1 ht => ⟨h0 + 1, h0 + 4, h0 + 8, h0 + 12, h0 + 16, h0 + 19, h0 + 22, h0 + 23, h0 + 28, h0 + 33, h0 + 38, h0 + 39, h0 + 43, h0 + 49, h0 + 53, rfl, (ht 0 (by decide)), (ht 3 (by decide)), (ht 7 (by decide)), (ht 11 (by decide)), (ht 15 (by decide)), (ht 18 (by decide)), (ht 21 (by decide)), (ht 22 (by decide)), (ht 27 (by decide)), (ht 32 (by decide)), (ht 37 (by decide)), (ht 38 (by decide)), (ht 42 (by decide)), (ht 48 (by decide)), (ht 52 (by decide))⟩)
  exact W.vret hx hb hr (fun u hu _ => ⟨rfl, by rw [hu]; exact hT, by rw [hu, hz]; rfl, by rw [hu]; exact hS.2.1⟩) hS.2.2 dX9_init_204 hlk
end
section
theorem dX10_forgets_0 : decode cX10_forgets 0 = .ok (.iconst 0, 1) := by decide +kernel
theorem dX10_forgets_1 : decode cX10_forgets 1 = .ok (.istore_n 1, 1) := by decide +kernel
theorem dX10_forgets_2 : decode cX10_forgets 2 = .ok (.iload_n 1, 1) := by decide +kernel
theorem dX10_forgets_3 : decode cX10_forgets 3 = .ok (.iconst 4, 1) := by decide +kernel
theorem dX10_forgets_4 : decode cX10_forgets 4 = .ok (.if_icmp .ge 17, 3) := by decide +kernel
theorem dX10_forgets_7 : decode cX10_forgets 7 = .ok (.aload_n 0, 1) := by decide +kernel
theorem dX10_forgets_8 : decode cX10_forgets 8 = .ok (.getfield 38, 3) := by decide +kernel
theorem dX10_forgets_11 : decode cX10_forgets 11 = .ok (.iload_n 1, 1) := by decide +kernel
theorem dX10_forgets_12 : decode cX10_forgets 12 = .ok (.bipush (-4), 2) := by decide +kernel
theorem dX10_forgets_14 : decode cX10_forgets 14 = .ok (.iastore, 1) := by decide +kernel
theorem dX10_forgets_15 : decode cX10_forgets 15 = .ok (.iinc 1 1, 3) := by decide +kernel
theorem dX10_forgets_18 : decode cX10_forgets 18 = .ok (.goto (-16), 3) := by decide +kernel
theorem dX10_forgets_21 : decode cX10_forgets 21 = .ok (.iconst 0, 1) := by decide +kernel
theorem dX10_forgets_22 : decode cX10_forgets 22 = .ok (.istore_n 1, 1) := by decide +kernel
theorem dX10_forgets_23 : decode cX10_forgets 23 = .ok (.iload_n 1, 1) := by decide +kernel
theorem dX10_forgets_24 : decode cX10_forgets 24 = .ok (.sipush 384, 3) := by decide +kernel
theorem dX10_forgets_27 : decode cX10_forgets 27 = .ok (.if_icmp .ge 16, 3) := by decide +kernel
theorem dX10_forgets_30 : decode cX10_forgets 30 = .ok (.aload_n 0, 1) := by decide +kernel
theorem dX10_forgets_31 : decode cX10_forgets 31 = .ok (.getfield 44, 3) := by decide +kernel
theorem dX10_forgets_34 : decode cX10_forgets 34 = .ok (.iload_n 1, 1) := by decide +kernel
theorem dX10_forgets_35 : decode cX10_forgets 35 = .ok (.iconst (-1), 1) := by decide +kernel
theorem dX10_forgets_36 : decode cX10_forgets 36 = .ok (.iastore, 1) := by decide +kernel
theorem dX10_forgets_37 : decode cX10_forgets 37 = .ok (.iinc 1 1, 3) := by decide +kernel
theorem dX10_forgets_40 : decode cX10_forgets 40 = .ok (.goto (-17), 3) := by decide +kernel
theorem dX10_forgets_43 : decode cX10_forgets 43 = .ok (.aload_n 0, 1) := by decide +kernel
theorem dX10_forgets_44 : decode cX10_forgets 44 = .ok (.getfield 59, 3) := by decide +kernel
theorem dX10_forgets_47 : decode cX10_forgets 47 = .ok (.iconst 0, 1) := by decide +kernel
theorem dX10_forgets_48 : decode cX10_forgets 48 = .ok (.iconst 0, 1) := by decide +kernel
theorem dX10_forgets_49 : decode cX10_forgets 49 = .ok (.iastore, 1) := by decide +kernel
theorem dX10_forgets_50 : decode cX10_forgets 50 = .ok (.aload_n 0, 1) := by decide +kernel
theorem dX10_forgets_51 : decode cX10_forgets 51 = .ok (.getfield 59, 3) := by decide +kernel
theorem dX10_forgets_54 : decode cX10_forgets 54 = .ok (.iconst 1, 1) := by decide +kernel
theorem dX10_forgets_55 : decode cX10_forgets 55 = .ok (.iconst 0, 1) := by decide +kernel
theorem dX10_forgets_56 : decode cX10_forgets 56 = .ok (.iastore, 1) := by decide +kernel
theorem dX10_forgets_57 : decode cX10_forgets 57 = .ok (.return_, 1) := by decide +kernel
/-! RiverModelModel.forgets, on an object that is being made: three rows are filled -/
set_option maxHeartbeats 4000000 in
theorem c_forgets0 (l : Launch) (D : va_G) (cI cL cC : ClassId) (o a1 a2 a3 : Nat) (fs : List Value) (f1 f2 f3 : Nat → Int32) (h14 : fs[14]? = some (.ref a1)) (h16 : fs[16]? = some (.ref a2)) (h22 : fs[22]? = some (.ref a3)) (n1 : o ≠ a1 ∧ o ≠ a2 ∧ o ≠ a3) (n2 : a1 ≠ a2 ∧ a1 ≠ a3 ∧ a2 ≠ a3) :
    Met l yX10_forgets wsX10_forgets ({ frames := 0, cells := 0, slots := 0, locals := 0 }) (fgP D cI cL cC o a1 a2 a3 fs f1 f2 f3) (fgQ D cI a1 a2 a3) 0 0 (fun q => q = a1 ∨ q = a2 ∨ q = a3) := by
  refine Met.ofW (cc := cX10_forgets) (maxL := 2) (ret := none) (by decide) rfl ?_
  intro p e s m args below meth c s₁ B hml hv
  obtain ⟨rfl, ⟨hat, ha1, ha2, ha3⟩, hE⟩ := hv
  have hx := B.exec
  have hb := B.bytes
  have hr := B.returns
  have hlk := B.notSynchronized
  have hts := atoms_spec (ws := wsX10_forgets) B.pre
  have hown : s.vm.findClass RX10 = some m.cls := findClass_of_methodNamed B.named
  have in10 : ∀ w ∈ wsX100, w ∈ wsX10_forgets := fun w h => List.mem_cons_of_mem _ (List.mem_append_right _ h)
  have hK := hE.1
  have hl := lv_entry [.ref o] (n := 2) (Nat.le_of_ble_eq_true rfl)
  rw [lg_entry_eq]
  generalize (lg_sl ([.ref o]) ++ List.replicate (2 - (lg_sl ([.ref o])).length) Slot.unset).toArray = ls at hl ⊢
  have hl : lv_has ls 2 [(0, .ref o)] := hl
  have hS : r3 a1 a2 a3 s.heap s.heap [] := ⟨rfl, fun _ _ _ _ => rfl, fun _ h => by cases h⟩
  have hat0 : ∀ {H : Heap} {locs : List Loc}, r3 a1 a2 a3 s.heap H locs → va_at D vwCl (o, .inr (9, fs)) H := fun h => hat.kept (h.2.1 o n1.1 n1.2.1 n1.2.2)
  clear hat
  refine lv_iconst (v := 0) hx hb dX10_forgets_0 (by decide) ?_
  refine lv_istore_n (lv' := [(1, .int 0), (0, .ref o)]) hx hb dX10_forgets_1 rfl hl (by decide) rfl (fun ls hl => ?_)
  refine lp_gen (fun WW hWW => ?_)
  have k2 : ∀ (g : Nat → Int32) (H : Heap) (locs : List Loc) (ls : Array Slot), va_at D vwCl (a1, .inl (cI, 4, .inl g)) H → va_at D vwCl (a2, .inl (cI, 384, .inl f2)) H → va_at D vwCl (a3, .inl (cI, 2, .inl f3)) H → (∀ j : Nat, j < 4 → g j = -4) → r3 a1 a2 a3 s.heap H locs → lv_has ls 2 [(0, .ref o)] → WW H locs (F0 m 21 ls []) := by
    intro g1 H locs ls ha1 ha2 ha3 hg1 hS hl
    refine (hWW _ _ _).mpr ?_
    refine lv_iconst (v := 0) hx hb dX10_forgets_21 (by decide) ?_
    refine lv_istore_n (lv' := [(1, .int 0), (0, .ref o)]) hx hb dX10_forgets_22 rfl hl (by decide) rfl (fun ls hl => ?_)
    refine (hWW _ _ _).mp ?_
    have k3 : ∀ (g : Nat → Int32) (H : Heap) (locs : List Loc) (ls : Array Slot), va_at D vwCl (a1, .inl (cI, 4, .inl g1)) H → va_at D vwCl (a2, .inl (cI, 384, .inl g)) H → va_at D vwCl (a3, .inl (cI, 2, .inl f3)) H → (∀ j : Nat, j < 384 → g j = -1) → r3 a1 a2 a3 s.heap H locs → lv_has ls 2 [(0, .ref o)] → WW H locs (F0 m 43 ls []) := by
      intro g2 H locs ls ha1 ha2 ha3 hg2 hS hl
      refine (hWW _ _ _).mpr ?_
      refine lv_aload_n hx hb dX10_forgets_43 rfl (lv_at hl 0 rfl) ?_
      refine va_get (D := D) (ci := 9) (v := .ref a3) (C := RX10) (T := TX10) (N := 36) hx hb hts in10 hown hK (va_one (hat0 hS)) 0 rfl rfl 22 (by decide) (hts (.fieldLink RX10 59 "RiverModelModel" "knobMany" "[I") (List.mem_of_getElem? (i := 3) rfl)) (fun _ h9 => h9) h22 dX10_forgets_44 ?_
      refine lv_iconst (v := 0) hx hb dX10_forgets_47 (by decide) ?_
      refine lv_iconst (v := 0) hx hb dX10_forgets_48 (by decide) ?_
      refine nw_iast hx hb hK ha3 (q_in (by decide) (by decide)) dX10_forgets_49 (fun H1 ha3 hz1 ho1 => ?_)
      have hS := hS.put hz1 ho1 (k := (0 : Int32).toNatClampNeg) (Or.inr (Or.inr rfl))
      replace ha1 := ha1.kept (ho1 a1 n2.2.1)
      replace ha2 := ha2.kept (ho1 a2 n2.2.2)
      generalize locs ++ [(⟨a3, (0 : Int32).toNatClampNeg⟩ : Loc)] = locs at hS ⊢
      refine lv_aload_n hx hb dX10_forgets_50 rfl (lv_at hl 0 rfl) ?_
      refine va_get (D := D) (ci := 9) (v := .ref a3) (C := RX10) (T := TX10) (N := 36) hx hb hts in10 hown hK (va_one (hat0 hS)) 0 rfl rfl 22 (by decide) (hts (.fieldLink RX10 59 "RiverModelModel" "knobMany" "[I") (List.mem_of_getElem? (i := 3) rfl)) (fun _ h9 => h9) h22 dX10_forgets_51 ?_
      refine lv_iconst (v := 1) hx hb dX10_forgets_54 (by decide) ?_
      refine lv_iconst (v := 0) hx hb dX10_forgets_55 (by decide) ?_
      refine nw_iast hx hb hK ha3 (q_in (by decide) (by decide)) dX10_forgets_56 (fun H2 ha3 hz2 ho2 => ?_)
      have hS := hS.put hz2 ho2 (k := (1 : Int32).toNatClampNeg) (Or.inr (Or.inr rfl))
      replace ha1 := ha1.kept (ho2 a1 n2.2.1)
      replace ha2 := ha2.kept (ho2 a2 n2.2.2)
      generalize locs ++ [(⟨a3, (1 : Int32).toNatClampNeg⟩ : Loc)] = locs at hS ⊢
      exact W.vret hx hb hr (fun t ht hW => ⟨rfl, ⟨g1, g2, _, ⟨by rw [ht]; exact ha1, by rw [ht]; exact ha2, by rw [ht]; exact ha3⟩, hg1, hg2, fun j hj => by rcases (show j = 0 ∨ j = 1 by omega) with rfl | rfl <;> rfl⟩, by rw [ht]; exact hS.1, by rw [ht]; exact hS.2.1⟩) hS.2.2 dX10_forgets_57 hlk
    have loop : ∀ (k i : Nat) (g : Nat → Int32) (H : Heap) (locs : List Loc) (ls : Array Slot), i + k = 384 → va_at D vwCl (a1, .inl (cI, 4, .inl g1)) H → va_at D vwCl (a2, .inl (cI, 384, .inl g)) H → va_at D vwCl (a3, .inl (cI, 2, .inl f3)) H → (∀ j : Nat, j < i → g j = -1) → r3 a1 a2 a3 s.heap H locs → lv_has ls 2 [(1, .int (nI i)), (0, .ref o)] → WW H locs (F0 m 23 ls []) := by
      intro k
      induction k with
      | zero =>
        intro i g H locs ls hi ha1 ha2 ha3 hg hS hl
        have hi : i = 384 := by omega
        subst hi
        refine (hWW _ _ _).mpr ?_
        refine lv_iload_n hx hb dX10_forgets_23 rfl (lv_at hl 0 rfl) ?_
        refine lv_sipush (v := 384) hx hb dX10_forgets_24 (by decide) ?_
        refine lv_icmp_ge (tgt := 43) hx hb dX10_forgets_27 (by decide) (fun _ => ?_) (fun q => absurd (by decide) q)
        exact (hWW _ _ _).mp (k3 g H locs ls ha1 ha2 ha3 hg hS (lv_sub hl [1] rfl))
      | succ k ih =>
        intro i g H locs ls hi ha1 ha2 ha3 hg hS hl
        have hlt : i < 384 := by omega
        refine (hWW _ _ _).mpr ?_
        refine lv_iload_n hx hb dX10_forgets_23 rfl (lv_at hl 0 rfl) ?_
        refine lv_sipush (v := 384) hx hb dX10_forgets_24 (by decide) ?_
        refine lv_icmp_ge (tgt := 43) hx hb dX10_forgets_27 (by decide) (fun q => absurd q (nI_ge (b := 384) hlt (by decide))) (fun _ => ?_)
        refine lv_aload_n hx hb dX10_forgets_30 rfl (lv_at hl 1 rfl) ?_
        refine va_get (D := D) (ci := 9) (v := .ref a2) (C := RX10) (T := TX10) (N := 36) hx hb hts in10 hown hK (va_one (hat0 hS)) 0 rfl rfl 16 (by decide) (hts (.fieldLink RX10 44 "RiverModelModel" "seen" "[I") (List.mem_of_getElem? (i := 2) rfl)) (fun _ h9 => h9) h16 dX10_forgets_31 ?_
        refine lv_iload_n hx hb dX10_forgets_34 rfl (lv_at hl 0 rfl) ?_
        refine lv_iconst (v := -1) hx hb dX10_forgets_35 (by decide) ?_
        refine nw_iast hx hb hK ha2 (vp_in_nI hlt (by decide)) dX10_forgets_36 (fun H1 ha2 hz1 ho1 => ?_)
        rw [nI_clamp (by omega)] at ha2
        have hS := hS.put hz1 ho1 (k := (nI i).toNatClampNeg) (Or.inr (Or.inl rfl))
        replace ha1 := ha1.kept (ho1 a1 n2.1)
        replace ha3 := ha3.kept (ho1 a3 n2.2.2.symm)
        refine lv_iinc (v := nI (i + 1)) (lv' := [(1, .int (nI (i + 1))), (0, .ref o)]) hx hb dX10_forgets_37 hl (k := 0) rfl (by rw [nI_succ]; rfl) (by decide) rfl (fun ls hl => ?_)
        refine lv_goto (tgt := 23) hx hb dX10_forgets_40 (by decide) ?_
        refine (hWW _ _ _).mp (ih (i + 1) _ H1 _ ls (by omega) ha1 ha2 ha3 (fun j hj => ?_) hS hl)
        unfold upd
        split
        · rfl
        · exact hg j (by omega)
    exact loop 384 0 f2 H locs ls (by omega) ha1 ha2 ha3 (fun j hj => absurd hj (Nat.not_lt_zero j)) hS hl
  have loop : ∀ (k i : Nat) (g : Nat → Int32) (H : Heap) (locs : List Loc) (ls : Array Slot), i + k = 4 → va_at D vwCl (a1, .inl (cI, 4, .inl g)) H → va_at D vwCl (a2, .inl (cI, 384, .inl f2)) H → va_at D vwCl (a3, .inl (cI, 2, .inl f3)) H → (∀ j : Nat, j < i → g j = -4) → r3 a1 a2 a3 s.heap H locs → lv_has ls 2 [(1, .int (nI i)), (0, .ref o)] → WW H locs (F0 m 2 ls []) := by
    intro k
    induction k with
    | zero =>
      intro i g H locs ls hi ha1 ha2 ha3 hg hS hl
      have hi : i = 4 := by omega
      subst hi
      refine (hWW _ _ _).mpr ?_
      refine lv_iload_n hx hb dX10_forgets_2 rfl (lv_at hl 0 rfl) ?_
      refine lv_iconst (v := 4) hx hb dX10_forgets_3 (by decide) ?_
      refine lv_icmp_ge (tgt := 21) hx hb dX10_forgets_4 (by decide) (fun _ => ?_) (fun q => absurd (by decide) q)
      exact (hWW _ _ _).mp (k2 g H locs ls ha1 ha2 ha3 hg hS (lv_sub hl [1] rfl))
    | succ k ih =>
      intro i g H locs ls hi ha1 ha2 ha3 hg hS hl
      have hlt : i < 4 := by omega
      refine (hWW _ _ _).mpr ?_
      refine lv_iload_n hx hb dX10_forgets_2 rfl (lv_at hl 0 rfl) ?_
      refine lv_iconst (v := 4) hx hb dX10_forgets_3 (by decide) ?_
      refine lv_icmp_ge (tgt := 21) hx hb dX10_forgets_4 (by decide) (fun q => absurd q (nI_ge (b := 4) hlt (by decide))) (fun _ => ?_)
      refine lv_aload_n hx hb dX10_forgets_7 rfl (lv_at hl 1 rfl) ?_
      refine va_get (D := D) (ci := 9) (v := .ref a1) (C := RX10) (T := TX10) (N := 36) hx hb hts in10 hown hK (va_one (hat0 hS)) 0 rfl rfl 14 (by decide) (hts (.fieldLink RX10 38 "RiverModelModel" "gaugeKind" "[I") (List.mem_of_getElem? (i := 1) rfl)) (fun _ h9 => h9) h14 dX10_forgets_8 ?_
      refine lv_iload_n hx hb dX10_forgets_11 rfl (lv_at hl 0 rfl) ?_
      refine lv_bipush (v := -4) hx hb dX10_forgets_12 (by decide) ?_
      refine nw_iast hx hb hK ha1 (vp_in_nI hlt (by decide)) dX10_forgets_14 (fun H1 ha1 hz1 ho1 => ?_)
      rw [nI_clamp (by omega)] at ha1
      have hS := hS.put hz1 ho1 (k := (nI i).toNatClampNeg) (Or.inl rfl)
      replace ha2 := ha2.kept (ho1 a2 n2.1.symm)
      replace ha3 := ha3.kept (ho1 a3 n2.2.1.symm)
      refine lv_iinc (v := nI (i + 1)) (lv' := [(1, .int (nI (i + 1))), (0, .ref o)]) hx hb dX10_forgets_15 hl (k := 0) rfl (by rw [nI_succ]; rfl) (by decide) rfl (fun ls hl => ?_)
      refine lv_goto (tgt := 2) hx hb dX10_forgets_18 (by decide) ?_
      refine (hWW _ _ _).mp (ih (i + 1) _ H1 _ ls (by omega) ha1 ha2 ha3 (fun j hj => ?_) hS hl)
      unfold upd
      split
      · rfl
      · exact hg j (by omega)
  exact loop 4 0 f1 s.heap [] ls (by omega) ha1 ha2 ha3 (fun j hj => absurd hj (Nat.not_lt_zero j)) hS hl
end
section
set_option maxRecDepth 20000 in
theorem ggX10_init_X10_forgets : GoodIn wsX10_init wsX10_forgets := goodIn_r _ [33, 15, 17, 22, 34, 35, 36, 37, 38, 39, 40, 41, 42, 43, 44, 45, 46, 47, 48, 49, 50, 51, 52, 53, 54, 55, 56, 57, 58, 59, 60, 61, 62, 63, 64, 65, 66, 67, 68, 69] (by decide +kernel) (by decide +kernel)
set_option maxRecDepth 20000 in
theorem gX10_init_X10_forgets : GoodIn wsX10_init (wsV RX10 80 RX10 yX10_forgets wsX10_forgets) := goodIn_app (goodIn_of _ (by decide +kernel)) ggX10_init_X10_forgets
theorem dX10_init_0 : decode cX10_init 0 = .ok (.aload_n 0, 1) := by decide +kernel
theorem dX10_init_1 : decode cX10_init 1 = .ok (.invokespecial 1, 3) := by decide +kernel
theorem dX10_init_4 : decode cX10_init 4 = .ok (.aload_n 0, 1) := by decide +kernel
theorem dX10_init_5 : decode cX10_init 5 = .ok (.sipush 400, 3) := by decide +kernel
theorem dX10_init_8 : decode cX10_init 8 = .ok (.newarray .int, 2) := by decide +kernel
theorem dX10_init_10 : decode cX10_init 10 = .ok (.putfield 7, 3) := by decide +kernel
theorem dX10_init_13 : decode cX10_init 13 = .ok (.aload_n 0, 1) := by decide +kernel
theorem dX10_init_14 : decode cX10_init 14 = .ok (.bipush 120, 2) := by decide +kernel
theorem dX10_init_16 : decode cX10_init 16 = .ok (.newarray .int, 2) := by decide +kernel
theorem dX10_init_18 : decode cX10_init 18 = .ok (.putfield 13, 3) := by decide +kernel
theorem dX10_init_21 : decode cX10_init 21 = .ok (.aload_n 0, 1) := by decide +kernel
theorem dX10_init_22 : decode cX10_init 22 = .ok (.bipush 120, 2) := by decide +kernel
theorem dX10_init_24 : decode cX10_init 24 = .ok (.newarray .int, 2) := by decide +kernel
theorem dX10_init_26 : decode cX10_init 26 = .ok (.putfield 16, 3) := by decide +kernel
theorem dX10_init_29 : decode cX10_init 29 = .ok (.aload_n 0, 1) := by decide +kernel
theorem dX10_init_30 : decode cX10_init 30 = .ok (.bipush 120, 2) := by decide +kernel
theorem dX10_init_32 : decode cX10_init 32 = .ok (.newarray .int, 2) := by decide +kernel
theorem dX10_init_34 : decode cX10_init 34 = .ok (.putfield 19, 3) := by decide +kernel
theorem dX10_init_37 : decode cX10_init 37 = .ok (.aload_n 0, 1) := by decide +kernel
theorem dX10_init_38 : decode cX10_init 38 = .ok (.sipush 360, 3) := by decide +kernel
theorem dX10_init_41 : decode cX10_init 41 = .ok (.newarray .int, 2) := by decide +kernel
theorem dX10_init_43 : decode cX10_init 43 = .ok (.putfield 22, 3) := by decide +kernel
theorem dX10_init_46 : decode cX10_init 46 = .ok (.aload_n 0, 1) := by decide +kernel
theorem dX10_init_47 : decode cX10_init 47 = .ok (.sipush 384, 3) := by decide +kernel
theorem dX10_init_50 : decode cX10_init 50 = .ok (.newarray .int, 2) := by decide +kernel
theorem dX10_init_52 : decode cX10_init 52 = .ok (.putfield 25, 3) := by decide +kernel
theorem dX10_init_55 : decode cX10_init 55 = .ok (.aload_n 0, 1) := by decide +kernel
theorem dX10_init_56 : decode cX10_init 56 = .ok (.sipush 280, 3) := by decide +kernel
theorem dX10_init_59 : decode cX10_init 59 = .ok (.newarray .long, 2) := by decide +kernel
theorem dX10_init_61 : decode cX10_init 61 = .ok (.putfield 28, 3) := by decide +kernel
theorem dX10_init_64 : decode cX10_init 64 = .ok (.aload_n 0, 1) := by decide +kernel
theorem dX10_init_65 : decode cX10_init 65 = .ok (.sipush 280, 3) := by decide +kernel
theorem dX10_init_68 : decode cX10_init 68 = .ok (.newarray .long, 2) := by decide +kernel
theorem dX10_init_70 : decode cX10_init 70 = .ok (.putfield 32, 3) := by decide +kernel
theorem dX10_init_73 : decode cX10_init 73 = .ok (.aload_n 0, 1) := by decide +kernel
theorem dX10_init_74 : decode cX10_init 74 = .ok (.sipush 840, 3) := by decide +kernel
theorem dX10_init_77 : decode cX10_init 77 = .ok (.newarray .long, 2) := by decide +kernel
theorem dX10_init_79 : decode cX10_init 79 = .ok (.putfield 35, 3) := by decide +kernel
theorem dX10_init_82 : decode cX10_init 82 = .ok (.aload_n 0, 1) := by decide +kernel
theorem dX10_init_83 : decode cX10_init 83 = .ok (.iconst 4, 1) := by decide +kernel
theorem dX10_init_84 : decode cX10_init 84 = .ok (.newarray .int, 2) := by decide +kernel
theorem dX10_init_86 : decode cX10_init 86 = .ok (.putfield 38, 3) := by decide +kernel
theorem dX10_init_89 : decode cX10_init 89 = .ok (.aload_n 0, 1) := by decide +kernel
theorem dX10_init_90 : decode cX10_init 90 = .ok (.iconst 4, 1) := by decide +kernel
theorem dX10_init_91 : decode cX10_init 91 = .ok (.newarray .int, 2) := by decide +kernel
theorem dX10_init_93 : decode cX10_init 93 = .ok (.putfield 41, 3) := by decide +kernel
theorem dX10_init_96 : decode cX10_init 96 = .ok (.aload_n 0, 1) := by decide +kernel
theorem dX10_init_97 : decode cX10_init 97 = .ok (.sipush 384, 3) := by decide +kernel
theorem dX10_init_100 : decode cX10_init 100 = .ok (.newarray .int, 2) := by decide +kernel
theorem dX10_init_102 : decode cX10_init 102 = .ok (.putfield 44, 3) := by decide +kernel
theorem dX10_init_105 : decode cX10_init 105 = .ok (.aload_n 0, 1) := by decide +kernel
theorem dX10_init_106 : decode cX10_init 106 = .ok (.iconst 2, 1) := by decide +kernel
theorem dX10_init_107 : decode cX10_init 107 = .ok (.newarray .int, 2) := by decide +kernel
theorem dX10_init_109 : decode cX10_init 109 = .ok (.putfield 47, 3) := by decide +kernel
theorem dX10_init_112 : decode cX10_init 112 = .ok (.aload_n 0, 1) := by decide +kernel
theorem dX10_init_113 : decode cX10_init 113 = .ok (.iconst 2, 1) := by decide +kernel
theorem dX10_init_114 : decode cX10_init 114 = .ok (.newarray .int, 2) := by decide +kernel
theorem dX10_init_116 : decode cX10_init 116 = .ok (.putfield 50, 3) := by decide +kernel
theorem dX10_init_119 : decode cX10_init 119 = .ok (.aload_n 0, 1) := by decide +kernel
theorem dX10_init_120 : decode cX10_init 120 = .ok (.iconst 2, 1) := by decide +kernel
theorem dX10_init_121 : decode cX10_init 121 = .ok (.newarray .int, 2) := by decide +kernel
theorem dX10_init_123 : decode cX10_init 123 = .ok (.putfield 53, 3) := by decide +kernel
theorem dX10_init_126 : decode cX10_init 126 = .ok (.aload_n 0, 1) := by decide +kernel
theorem dX10_init_127 : decode cX10_init 127 = .ok (.iconst 2, 1) := by decide +kernel
theorem dX10_init_128 : decode cX10_init 128 = .ok (.newarray .int, 2) := by decide +kernel
theorem dX10_init_130 : decode cX10_init 130 = .ok (.putfield 56, 3) := by decide +kernel
theorem dX10_init_133 : decode cX10_init 133 = .ok (.aload_n 0, 1) := by decide +kernel
theorem dX10_init_134 : decode cX10_init 134 = .ok (.iconst 2, 1) := by decide +kernel
theorem dX10_init_135 : decode cX10_init 135 = .ok (.newarray .int, 2) := by decide +kernel
theorem dX10_init_137 : decode cX10_init 137 = .ok (.putfield 59, 3) := by decide +kernel
theorem dX10_init_140 : decode cX10_init 140 = .ok (.aload_n 0, 1) := by decide +kernel
theorem dX10_init_141 : decode cX10_init 141 = .ok (.iconst 4, 1) := by decide +kernel
theorem dX10_init_142 : decode cX10_init 142 = .ok (.newarray .int, 2) := by decide +kernel
theorem dX10_init_144 : decode cX10_init 144 = .ok (.putfield 62, 3) := by decide +kernel
theorem dX10_init_147 : decode cX10_init 147 = .ok (.aload_n 0, 1) := by decide +kernel
theorem dX10_init_148 : decode cX10_init 148 = .ok (.bipush 96, 2) := by decide +kernel
theorem dX10_init_150 : decode cX10_init 150 = .ok (.newarray .int, 2) := by decide +kernel
theorem dX10_init_152 : decode cX10_init 152 = .ok (.putfield 65, 3) := by decide +kernel
theorem dX10_init_155 : decode cX10_init 155 = .ok (.aload_n 0, 1) := by decide +kernel
theorem dX10_init_156 : decode cX10_init 156 = .ok (.iconst 4, 1) := by decide +kernel
theorem dX10_init_157 : decode cX10_init 157 = .ok (.newarray .int, 2) := by decide +kernel
theorem dX10_init_159 : decode cX10_init 159 = .ok (.putfield 68, 3) := by decide +kernel
theorem dX10_init_162 : decode cX10_init 162 = .ok (.aload_n 0, 1) := by decide +kernel
theorem dX10_init_163 : decode cX10_init 163 = .ok (.bipush 16, 2) := by decide +kernel
theorem dX10_init_165 : decode cX10_init 165 = .ok (.newarray .int, 2) := by decide +kernel
theorem dX10_init_167 : decode cX10_init 167 = .ok (.putfield 71, 3) := by decide +kernel
theorem dX10_init_170 : decode cX10_init 170 = .ok (.aload_n 0, 1) := by decide +kernel
theorem dX10_init_171 : decode cX10_init 171 = .ok (.iconst 3, 1) := by decide +kernel
theorem dX10_init_172 : decode cX10_init 172 = .ok (.newarray .int, 2) := by decide +kernel
theorem dX10_init_174 : decode cX10_init 174 = .ok (.putfield 74, 3) := by decide +kernel
theorem dX10_init_177 : decode cX10_init 177 = .ok (.aload_n 0, 1) := by decide +kernel
theorem dX10_init_178 : decode cX10_init 178 = .ok (.bipush 96, 2) := by decide +kernel
theorem dX10_init_180 : decode cX10_init 180 = .ok (.newarray .long, 2) := by decide +kernel
theorem dX10_init_182 : decode cX10_init 182 = .ok (.putfield 77, 3) := by decide +kernel
theorem dX10_init_185 : decode cX10_init 185 = .ok (.iconst 0, 1) := by decide +kernel
theorem dX10_init_186 : decode cX10_init 186 = .ok (.istore_n 1, 1) := by decide +kernel
theorem dX10_init_187 : decode cX10_init 187 = .ok (.iload_n 1, 1) := by decide +kernel
theorem dX10_init_188 : decode cX10_init 188 = .ok (.sipush 192, 3) := by decide +kernel
theorem dX10_init_191 : decode cX10_init 191 = .ok (.if_icmp .ge 21, 3) := by decide +kernel
theorem dX10_init_194 : decode cX10_init 194 = .ok (.aload_n 0, 1) := by decide +kernel
theorem dX10_init_195 : decode cX10_init 195 = .ok (.getfield 25, 3) := by decide +kernel
theorem dX10_init_198 : decode cX10_init 198 = .ok (.iconst 2, 1) := by decide +kernel
theorem dX10_init_199 : decode cX10_init 199 = .ok (.iload_n 1, 1) := by decide +kernel
theorem dX10_init_200 : decode cX10_init 200 = .ok (.imul, 1) := by decide +kernel
theorem dX10_init_201 : decode cX10_init 201 = .ok (.iconst 1, 1) := by decide +kernel
theorem dX10_init_202 : decode cX10_init 202 = .ok (.iadd, 1) := by decide +kernel
theorem dX10_init_203 : decode cX10_init 203 = .ok (.bipush 10, 2) := by decide +kernel
theorem dX10_init_205 : decode cX10_init 205 = .ok (.iastore, 1) := by decide +kernel
theorem dX10_init_206 : decode cX10_init 206 = .ok (.iinc 1 1, 3) := by decide +kernel
theorem dX10_init_209 : decode cX10_init 209 = .ok (.goto (-22), 3) := by decide +kernel
theorem dX10_init_212 : decode cX10_init 212 = .ok (.aload_n 0, 1) := by decide +kernel
theorem dX10_init_213 : decode cX10_init 213 = .ok (.invokevirtual 80, 3) := by decide +kernel
theorem dX10_init_216 : decode cX10_init 216 = .ok (.return_, 1) := by decide +kernel

set_option maxHeartbeats 4000000 in
set_option maxRecDepth 100000 in
theorem cc_X10 (l : Launch) (D : va_G) (cI cL cC : ClassId) (gC : Int32) (h0 : Nat) : Met l yX10_init wsX10_init ({ frames := 1, cells := 23, slots := 3525, locals := 21 }) (cP D cI cL cC 9 [.int 0, .null, .int 0, .int 0, .null, .null, .null, .null, .int 0, .null, .null, .null, .null, .int 0, .null, .null, .null, .int 0, .null, .null, .null, .null, .null, .null, .null, .null, .null, .int 0, .int 0, .int 0, .int 0, .int 0, .null, .int 0, .int 0, .null] h0) (cQ D (fF cI cL cC gC 0) [40, 41, 42, 43, 44, 45, 46, 47, 48, 49, 50, 51, 52, 53, 54, 55, 56, 57, 58, 59, 60, 61, 62, 63] h0) 23 3525 (fun q => h0 ≤ q) := by
  refine cM_ofW (cc := cX10_init) (maxL := 2) (by decide) rfl rfl (by decide) ?_
  intro p e s m below meth c hx hb hr hml hown hts hlk hin hz at0 hK hE hS ls hl
  have hl : lv_has ls 2 [(0, .ref h0)] := hl
  have in10 : ∀ w ∈ wsX100, w ∈ wsX10_init := fun w h => List.mem_cons_of_mem _ (List.mem_append_right _ h)
  refine lv_aload_n hx hb dX10_init_0 rfl (lv_at hl 0 rfl) ?_
  refine W.objInit hx hb hown (hts (.methodLink RX10 1 objectInit) (List.mem_of_getElem? (i := 1) rfl)) (hts (.instanceMethod objectInit) (List.mem_of_getElem? (i := 2) rfl)) (hts (.code objectInit ⟨#[0xb1]⟩ 1 none) (List.mem_of_getElem? (i := 3) rfl)) rfl (by rw [hml]; exact hl.1) rfl dX10_init_1 (Nat.le_of_ble_eq_true rfl) (Nat.le_of_ble_eq_true rfl) ?_
  refine W.eq (g2 := F0 m 4 ls []) rfl ?_
  refine lv_aload_n hx hb dX10_init_4 rfl (lv_at hl 0 rfl) ?_
  refine lv_sipush (v := 400) hx hb dX10_init_5 (by decide) ?_
  refine nw_newI (N := 400) (z := h0 + 1) hx hb (hts (.arrayClass .int) (List.mem_of_getElem? (i := 4) rfl)) hK hS hz (Nat.le_add_right _ _) (by decide) (by decide) (by decide) (Nat.le_of_ble_eq_true rfl) (Nat.le_of_ble_eq_true rfl) dX10_init_8 (fun H at_1 hz o_2 hS => ?_)
  replace at0 := va_at.keptA (b := h0) (z := 1) 0 at0 o_2 (Nat.le_of_ble_eq_true rfl)
  clear o_2
  have hz : H.size = h0 + 2 := hz
  refine nw_putF (D := D) (ci := 9) (v := .ref (h0 + 1)) (ty := .array .int) (C := RX10) (T := TX10) (N := 36) hx hb hts in10 tyX10 tyX10_ok nmX10 hown hK hS (Nat.le_refl _) at0 rfl 1 (by decide) (hts (.fieldLink RX10 7 "RiverModelModel" "text" "[I") (List.mem_of_getElem? (i := 5) rfl)) (fun _ h9 => h9) rfl hin rfl (by decide +kernel) rfl rfl (Nat.le_of_ble_eq_true rfl) dX10_init_10 (fun H locs at0 hz_4 o_3 hS => ?_)
  have at0 : va_at D vwCl (h0, .inr (9, [.int 0, .ref (h0 + 1), .int 0, .int 0, .null, .null, .null, .null, .int 0, .null, .null, .null, .null, .int 0, .null, .null, .null, .int 0, .null, .null, .null, .null, .null, .null, .null, .null, .null, .int 0, .int 0, .int 0, .int 0, .int 0, .null, .int 0, .int 0, .null])) H := at0
  replace hz : H.size = h0 + 2 := hz_4.trans hz
  replace at_1 := va_at.keptP (b := h0) (j := 0) 1 at_1 o_3 rfl
  clear o_3 hz_4
  refine lv_aload_n hx hb dX10_init_13 rfl (lv_at hl 0 rfl) ?_
  refine lv_pc (pc2 := 14) rfl ?_
  refine lv_bipush (v := 120) hx hb dX10_init_14 (by decide) ?_
  refine nw_newI (N := 120) (z := h0 + 2) hx hb (hts (.arrayClass .int) (List.mem_of_getElem? (i := 4) rfl)) hK hS hz (Nat.le_add_right _ _) (by decide) (by decide) (by decide) (Nat.le_of_ble_eq_true rfl) (Nat.le_of_ble_eq_true rfl) dX10_init_16 (fun H at_5 hz o_6 hS => ?_)
  replace at0 := va_at.keptA (b := h0) (z := 2) 0 at0 o_6 (Nat.le_of_ble_eq_true rfl)
  replace at_1 := va_at.keptA (b := h0) (z := 2) 1 at_1 o_6 (Nat.le_of_ble_eq_true rfl)
  clear o_6
  have hz : H.size = h0 + 3 := hz
  refine nw_putF (D := D) (ci := 9) (v := .ref (h0 + 2)) (ty := .array .int) (C := RX10) (T := TX10) (N := 36) hx hb hts in10 tyX10 tyX10_ok nmX10 hown hK hS (Nat.le_refl _) at0 rfl 4 (by decide) (hts (.fieldLink RX10 13 "RiverModelModel" "kind" "[I") (List.mem_of_getElem? (i := 6) rfl)) (fun _ h9 => h9) rfl hin rfl (by decide +kernel) rfl rfl (Nat.le_of_ble_eq_true rfl) dX10_init_18 (fun H locs at0 hz_8 o_7 hS => ?_)
  have at0 : va_at D vwCl (h0, .inr (9, [.int 0, .ref (h0 + 1), .int 0, .int 0, .ref (h0 + 2), .null, .null, .null, .int 0, .null, .null, .null, .null, .int 0, .null, .null, .null, .int 0, .null, .null, .null, .null, .null, .null, .null, .null, .null, .int 0, .int 0, .int 0, .int 0, .int 0, .null, .int 0, .int 0, .null])) H := at0
  replace hz : H.size = h0 + 3 := hz_8.trans hz
  replace at_1 := va_at.keptP (b := h0) (j := 0) 1 at_1 o_7 rfl
  replace at_5 := va_at.keptP (b := h0) (j := 0) 2 at_5 o_7 rfl
  clear o_7 hz_8
  refine lv_aload_n hx hb dX10_init_21 rfl (lv_at hl 0 rfl) ?_
  refine lv_bipush (v := 120) hx hb dX10_init_22 (by decide) ?_
  refine nw_newI (N := 120) (z := h0 + 3) hx hb (hts (.arrayClass .int) (List.mem_of_getElem? (i := 4) rfl)) hK hS hz (Nat.le_add_right _ _) (by decide) (by decide) (by decide) (Nat.le_of_ble_eq_true rfl) (Nat.le_of_ble_eq_true rfl) dX10_init_24 (fun H at_9 hz o_10 hS => ?_)
  replace at0 := va_at.keptA (b := h0) (z := 3) 0 at0 o_10 (Nat.le_of_ble_eq_true rfl)
  replace at_1 := va_at.keptA (b := h0) (z := 3) 1 at_1 o_10 (Nat.le_of_ble_eq_true rfl)
  replace at_5 := va_at.keptA (b := h0) (z := 3) 2 at_5 o_10 (Nat.le_of_ble_eq_true rfl)
  clear o_10
  have hz : H.size = h0 + 4 := hz
  refine nw_putF (D := D) (ci := 9) (v := .ref (h0 + 3)) (ty := .array .int) (C := RX10) (T := TX10) (N := 36) hx hb hts in10 tyX10 tyX10_ok nmX10 hown hK hS (Nat.le_refl _) at0 rfl 5 (by decide) (hts (.fieldLink RX10 16 "RiverModelModel" "first" "[I") (List.mem_of_getElem? (i := 7) rfl)) (fun _ h9 => h9) rfl hin rfl (by decide +kernel) rfl rfl (Nat.le_of_ble_eq_true rfl) dX10_init_26 (fun H locs at0 hz_12 o_11 hS => ?_)
  have at0 : va_at D vwCl (h0, .inr (9, [.int 0, .ref (h0 + 1), .int 0, .int 0, .ref (h0 + 2), .ref (h0 + 3), .null, .null, .int 0, .null, .null, .null, .null, .int 0, .null, .null, .null, .int 0, .null, .null, .null, .null, .null, .null, .null, .null, .null, .int 0, .int 0, .int 0, .int 0, .int 0, .null, .int 0, .int 0, .null])) H := at0
  replace hz : H.size = h0 + 4 := hz_12.trans hz
  replace at_1 := va_at.keptP (b := h0) (j := 0) 1 at_1 o_11 rfl
  replace at_5 := va_at.keptP (b := h0) (j := 0) 2 at_5 o_11 rfl
  replace at_9 := va_at.keptP (b := h0) (j := 0) 3 at_9 o_11 rfl
  clear o_11 hz_12
  refine lv_aload_n hx hb dX10_init_29 rfl (lv_at hl 0 rfl) ?_
  refine lv_pc (pc2 := 30) rfl ?_
  refine lv_bipush (v := 120) hx hb dX10_init_30 (by decide) ?_
  refine nw_newI (N := 120) (z := h0 + 4) hx hb (hts (.arrayClass .int) (List.mem_of_getElem? (i := 4) rfl)) hK hS hz (Nat.le_add_right _ _) (by decide) (by decide) (by decide) (Nat.le_of_ble_eq_true rfl) (Nat.le_of_ble_eq_true rfl) dX10_init_32 (fun H at_13 hz o_14 hS => ?_)
  replace at0 := va_at.keptA (b := h0) (z := 4) 0 at0 o_14 (Nat.le_of_ble_eq_true rfl)
  replace at_1 := va_at.keptA (b := h0) (z := 4) 1 at_1 o_14 (Nat.le_of_ble_eq_true rfl)
  replace at_5 := va_at.keptA (b := h0) (z := 4) 2 at_5 o_14 (Nat.le_of_ble_eq_true rfl)
  replace at_9 := va_at.keptA (b := h0) (z := 4) 3 at_9 o_14 (Nat.le_of_ble_eq_true rfl)
  clear o_14
  have hz : H.size = h0 + 5 := hz
  refine nw_putF (D := D) (ci := 9) (v := .ref (h0 + 4)) (ty := .array .int) (C := RX10) (T := TX10) (N := 36) hx hb hts in10 tyX10 tyX10_ok nmX10 hown hK hS (Nat.le_refl _) at0 rfl 6 (by decide) (hts (.fieldLink RX10 19 "RiverModelModel" "second" "[I") (List.mem_of_getElem? (i := 8) rfl)) (fun _ h9 => h9) rfl hin rfl (by decide +kernel) rfl rfl (Nat.le_of_ble_eq_true rfl) dX10_init_34 (fun H locs at0 hz_16 o_15 hS => ?_)
  have at0 : va_at D vwCl (h0, .inr (9, [.int 0, .ref (h0 + 1), .int 0, .int 0, .ref (h0 + 2), .ref (h0 + 3), .ref (h0 + 4), .null, .int 0, .null, .null, .null, .null, .int 0, .null, .null, .null, .int 0, .null, .null, .null, .null, .null, .null, .null, .null, .null, .int 0, .int 0, .int 0, .int 0, .int 0, .null, .int 0, .int 0, .null])) H := at0
  replace hz : H.size = h0 + 5 := hz_16.trans hz
  replace at_1 := va_at.keptP (b := h0) (j := 0) 1 at_1 o_15 rfl
  replace at_5 := va_at.keptP (b := h0) (j := 0) 2 at_5 o_15 rfl
  replace at_9 := va_at.keptP (b := h0) (j := 0) 3 at_9 o_15 rfl
  replace at_13 := va_at.keptP (b := h0) (j := 0) 4 at_13 o_15 rfl
  clear o_15 hz_16
  refine lv_aload_n hx hb dX10_init_37 rfl (lv_at hl 0 rfl) ?_
  refine lv_sipush (v := 360) hx hb dX10_init_38 (by decide) ?_
  refine nw_newI (N := 360) (z := h0 + 5) hx hb (hts (.arrayClass .int) (List.mem_of_getElem? (i := 4) rfl)) hK hS hz (Nat.le_add_right _ _) (by decide) (by decide) (by decide) (Nat.le_of_ble_eq_true rfl) (Nat.le_of_ble_eq_true rfl) dX10_init_41 (fun H at_17 hz o_18 hS => ?_)
  replace at0 := va_at.keptA (b := h0) (z := 5) 0 at0 o_18 (Nat.le_of_ble_eq_true rfl)
  replace at_1 := va_at.keptA (b := h0) (z := 5) 1 at_1 o_18 (Nat.le_of_ble_eq_true rfl)
  replace at_5 := va_at.keptA (b := h0) (z := 5) 2 at_5 o_18 (Nat.le_of_ble_eq_true rfl)
  replace at_9 := va_at.keptA (b := h0) (z := 5) 3 at_9 o_18 (Nat.le_of_ble_eq_true rfl)
  replace at_13 := va_at.keptA (b := h0) (z := 5) 4 at_13 o_18 (Nat.le_of_ble_eq_true rfl)
  clear o_18
  have hz : H.size = h0 + 6 := hz
  refine nw_putF (D := D) (ci := 9) (v := .ref (h0 + 5)) (ty := .array .int) (C := RX10) (T := TX10) (N := 36) hx hb hts in10 tyX10 tyX10_ok nmX10 hown hK hS (Nat.le_refl _) at0 rfl 7 (by decide) (hts (.fieldLink RX10 22 "RiverModelModel" "number" "[I") (List.mem_of_getElem? (i := 9) rfl)) (fun _ h9 => h9) rfl hin rfl (by decide +kernel) rfl rfl (Nat.le_of_ble_eq_true rfl) dX10_init_43 (fun H locs at0 hz_20 o_19 hS => ?_)
  have at0 : va_at D vwCl (h0, .inr (9, [.int 0, .ref (h0 + 1), .int 0, .int 0, .ref (h0 + 2), .ref (h0 + 3), .ref (h0 + 4), .ref (h0 + 5), .int 0, .null, .null, .null, .null, .int 0, .null, .null, .null, .int 0, .null, .null, .null, .null, .null, .null, .null, .null, .null, .int 0, .int 0, .int 0, .int 0, .int 0, .null, .int 0, .int 0, .null])) H := at0
  replace hz : H.size = h0 + 6 := hz_20.trans hz
  replace at_1 := va_at.keptP (b := h0) (j := 0) 1 at_1 o_19 rfl
  replace at_5 := va_at.keptP (b := h0) (j := 0) 2 at_5 o_19 rfl
  replace at_9 := va_at.keptP (b := h0) (j := 0) 3 at_9 o_19 rfl
  replace at_13 := va_at.keptP (b := h0) (j := 0) 4 at_13 o_19 rfl
  replace at_17 := va_at.keptP (b := h0) (j := 0) 5 at_17 o_19 rfl
  clear o_19 hz_20
  refine lv_aload_n hx hb dX10_init_46 rfl (lv_at hl 0 rfl) ?_
  refine lv_pc (pc2 := 47) rfl ?_
  refine lv_sipush (v := 384) hx hb dX10_init_47 (by decide) ?_
  refine nw_newI (N := 384) (z := h0 + 6) hx hb (hts (.arrayClass .int) (List.mem_of_getElem? (i := 4) rfl)) hK hS hz (Nat.le_add_right _ _) (by decide) (by decide) (by decide) (Nat.le_of_ble_eq_true rfl) (Nat.le_of_ble_eq_true rfl) dX10_init_50 (fun H at_21 hz o_22 hS => ?_)
  replace at0 := va_at.keptA (b := h0) (z := 6) 0 at0 o_22 (Nat.le_of_ble_eq_true rfl)
  replace at_1 := va_at.keptA (b := h0) (z := 6) 1 at_1 o_22 (Nat.le_of_ble_eq_true rfl)
  replace at_5 := va_at.keptA (b := h0) (z := 6) 2 at_5 o_22 (Nat.le_of_ble_eq_true rfl)
  replace at_9 := va_at.keptA (b := h0) (z := 6) 3 at_9 o_22 (Nat.le_of_ble_eq_true rfl)
  replace at_13 := va_at.keptA (b := h0) (z := 6) 4 at_13 o_22 (Nat.le_of_ble_eq_true rfl)
  replace at_17 := va_at.keptA (b := h0) (z := 6) 5 at_17 o_22 (Nat.le_of_ble_eq_true rfl)
  clear o_22
  have hz : H.size = h0 + 7 := hz
  refine nw_putF (D := D) (ci := 9) (v := .ref (h0 + 6)) (ty := .array .int) (C := RX10) (T := TX10) (N := 36) hx hb hts in10 tyX10 tyX10_ok nmX10 hown hK hS (Nat.le_refl _) at0 rfl 9 (by decide) (hts (.fieldLink RX10 25 "RiverModelModel" "weather" "[I") (List.mem_of_getElem? (i := 10) rfl)) (fun _ h9 => h9) rfl hin rfl (by decide +kernel) rfl rfl (Nat.le_of_ble_eq_true rfl) dX10_init_52 (fun H locs at0 hz_24 o_23 hS => ?_)
  have at0 : va_at D vwCl (h0, .inr (9, [.int 0, .ref (h0 + 1), .int 0, .int 0, .ref (h0 + 2), .ref (h0 + 3), .ref (h0 + 4), .ref (h0 + 5), .int 0, .ref (h0 + 6), .null, .null, .null, .int 0, .null, .null, .null, .int 0, .null, .null, .null, .null, .null, .null, .null, .null, .null, .int 0, .int 0, .int 0, .int 0, .int 0, .null, .int 0, .int 0, .null])) H := at0
  replace hz : H.size = h0 + 7 := hz_24.trans hz
  replace at_1 := va_at.keptP (b := h0) (j := 0) 1 at_1 o_23 rfl
  replace at_5 := va_at.keptP (b := h0) (j := 0) 2 at_5 o_23 rfl
  replace at_9 := va_at.keptP (b := h0) (j := 0) 3 at_9 o_23 rfl
  replace at_13 := va_at.keptP (b := h0) (j := 0) 4 at_13 o_23 rfl
  replace at_17 := va_at.keptP (b := h0) (j := 0) 5 at_17 o_23 rfl
  replace at_21 := va_at.keptP (b := h0) (j := 0) 6 at_21 o_23 rfl
  clear o_23 hz_24
  refine lv_aload_n hx hb dX10_init_55 rfl (lv_at hl 0 rfl) ?_
  refine lv_sipush (v := 280) hx hb dX10_init_56 (by decide) ?_
  refine nw_newL (N := 280) (z := h0 + 7) hx hb (hts (.arrayClass .long) (List.mem_of_getElem? (i := 11) rfl)) hK hS hz (Nat.le_add_right _ _) (by decide) (by decide) (by decide) (Nat.le_of_ble_eq_true rfl) (Nat.le_of_ble_eq_true rfl) dX10_init_59 (fun H at_25 hz o_26 hS => ?_)
  replace at0 := va_at.keptA (b := h0) (z := 7) 0 at0 o_26 (Nat.le_of_ble_eq_true rfl)
  replace at_1 := va_at.keptA (b := h0) (z := 7) 1 at_1 o_26 (Nat.le_of_ble_eq_true rfl)
  replace at_5 := va_at.keptA (b := h0) (z := 7) 2 at_5 o_26 (Nat.le_of_ble_eq_true rfl)
  replace at_9 := va_at.keptA (b := h0) (z := 7) 3 at_9 o_26 (Nat.le_of_ble_eq_true rfl)
  replace at_13 := va_at.keptA (b := h0) (z := 7) 4 at_13 o_26 (Nat.le_of_ble_eq_true rfl)
  replace at_17 := va_at.keptA (b := h0) (z := 7) 5 at_17 o_26 (Nat.le_of_ble_eq_true rfl)
  replace at_21 := va_at.keptA (b := h0) (z := 7) 6 at_21 o_26 (Nat.le_of_ble_eq_true rfl)
  clear o_26
  have hz : H.size = h0 + 8 := hz
  refine nw_putF (D := D) (ci := 9) (v := .ref (h0 + 7)) (ty := .array .long) (C := RX10) (T := TX10) (N := 36) hx hb hts in10 tyX10 tyX10_ok nmX10 hown hK hS (Nat.le_refl _) at0 rfl 10 (by decide) (hts (.fieldLink RX10 28 "RiverModelModel" "m" "[J") (List.mem_of_getElem? (i := 12) rfl)) (fun _ h9 => h9) rfl hin rfl (by decide +kernel) rfl rfl (Nat.le_of_ble_eq_true rfl) dX10_init_61 (fun H locs at0 hz_28 o_27 hS => ?_)
  have at0 : va_at D vwCl (h0, .inr (9, [.int 0, .ref (h0 + 1), .int 0, .int 0, .ref (h0 + 2), .ref (h0 + 3), .ref (h0 + 4), .ref (h0 + 5), .int 0, .ref (h0 + 6), .ref (h0 + 7), .null, .null, .int 0, .null, .null, .null, .int 0, .null, .null, .null, .null, .null, .null, .null, .null, .null, .int 0, .int 0, .int 0, .int 0, .int 0, .null, .int 0, .int 0, .null])) H := at0
  replace hz : H.size = h0 + 8 := hz_28.trans hz
  replace at_1 := va_at.keptP (b := h0) (j := 0) 1 at_1 o_27 rfl
  replace at_5 := va_at.keptP (b := h0) (j := 0) 2 at_5 o_27 rfl
  replace at_9 := va_at.keptP (b := h0) (j := 0) 3 at_9 o_27 rfl
  replace at_13 := va_at.keptP (b := h0) (j := 0) 4 at_13 o_27 rfl
  replace at_17 := va_at.keptP (b := h0) (j := 0) 5 at_17 o_27 rfl
  replace at_21 := va_at.keptP (b := h0) (j := 0) 6 at_21 o_27 rfl
  replace at_25 := va_at.keptP (b := h0) (j := 0) 7 at_25 o_27 rfl
  clear o_27 hz_28
  refine lv_aload_n hx hb dX10_init_64 rfl (lv_at hl 0 rfl) ?_
  refine lv_pc (pc2 := 65) rfl ?_
  refine lv_sipush (v := 280) hx hb dX10_init_65 (by decide) ?_
  refine nw_newL (N := 280) (z := h0 + 8) hx hb (hts (.arrayClass .long) (List.mem_of_getElem? (i := 11) rfl)) hK hS hz (Nat.le_add_right _ _) (by decide) (by decide) (by decide) (Nat.le_of_ble_eq_true rfl) (Nat.le_of_ble_eq_true rfl) dX10_init_68 (fun H at_29 hz o_30 hS => ?_)
  replace at0 := va_at.keptA (b := h0) (z := 8) 0 at0 o_30 (Nat.le_of_ble_eq_true rfl)
  replace at_1 := va_at.keptA (b := h0) (z := 8) 1 at_1 o_30 (Nat.le_of_ble_eq_true rfl)
  replace at_5 := va_at.keptA (b := h0) (z := 8) 2 at_5 o_30 (Nat.le_of_ble_eq_true rfl)
  replace at_9 := va_at.keptA (b := h0) (z := 8) 3 at_9 o_30 (Nat.le_of_ble_eq_true rfl)
  replace at_13 := va_at.keptA (b := h0) (z := 8) 4 at_13 o_30 (Nat.le_of_ble_eq_true rfl)
  replace at_17 := va_at.keptA (b := h0) (z := 8) 5 at_17 o_30 (Nat.le_of_ble_eq_true rfl)
  replace at_21 := va_at.keptA (b := h0) (z := 8) 6 at_21 o_30 (Nat.le_of_ble_eq_true rfl)
  replace at_25 := va_at.keptA (b := h0) (z := 8) 7 at_25 o_30 (Nat.le_of_ble_eq_true rfl)
  clear o_30
  have hz : H.size = h0 + 9 := hz
  refine nw_putF (D := D) (ci := 9) (v := .ref (h0 + 8)) (ty := .array .long) (C := RX10) (T := TX10) (N := 36) hx hb hts in10 tyX10 tyX10_ok nmX10 hown hK hS (Nat.le_refl _) at0 rfl 11 (by decide) (hts (.fieldLink RX10 32 "RiverModelModel" "aside" "[J") (List.mem_of_getElem? (i := 13) rfl)) (fun _ h9 => h9) rfl hin rfl (by decide +kernel) rfl rfl (Nat.le_of_ble_eq_true rfl) dX10_init_70 (fun H locs at0 hz_32 o_31 hS => ?_)
  have at0 : va_at D vwCl (h0, .inr (9, [.int 0, .ref (h0 + 1), .int 0, .int 0, .ref (h0 + 2), .ref (h0 + 3), .ref (h0 + 4), .ref (h0 + 5), .int 0, .ref (h0 + 6), .ref (h0 + 7), .ref (h0 + 8), .null, .int 0, .null, .null, .null, .int 0, .null, .null, .null, .null, .null, .null, .null, .null, .null, .int 0, .int 0, .int 0, .int 0, .int 0, .null, .int 0, .int 0, .null])) H := at0
  replace hz : H.size = h0 + 9 := hz_32.trans hz
  replace at_1 := va_at.keptP (b := h0) (j := 0) 1 at_1 o_31 rfl
  replace at_5 := va_at.keptP (b := h0) (j := 0) 2 at_5 o_31 rfl
  replace at_9 := va_at.keptP (b := h0) (j := 0) 3 at_9 o_31 rfl
  replace at_13 := va_at.keptP (b := h0) (j := 0) 4 at_13 o_31 rfl
  replace at_17 := va_at.keptP (b := h0) (j := 0) 5 at_17 o_31 rfl
  replace at_21 := va_at.keptP (b := h0) (j := 0) 6 at_21 o_31 rfl
  replace at_25 := va_at.keptP (b := h0) (j := 0) 7 at_25 o_31 rfl
  replace at_29 := va_at.keptP (b := h0) (j := 0) 8 at_29 o_31 rfl
  clear o_31 hz_32
  refine lv_aload_n hx hb dX10_init_73 rfl (lv_at hl 0 rfl) ?_
  refine lv_sipush (v := 840) hx hb dX10_init_74 (by decide) ?_
  refine nw_newL (N := 840) (z := h0 + 9) hx hb (hts (.arrayClass .long) (List.mem_of_getElem? (i := 11) rfl)) hK hS hz (Nat.le_add_right _ _) (by decide) (by decide) (by decide) (Nat.le_of_ble_eq_true rfl) (Nat.le_of_ble_eq_true rfl) dX10_init_77 (fun H at_33 hz o_34 hS => ?_)
  replace at0 := va_at.keptA (b := h0) (z := 9) 0 at0 o_34 (Nat.le_of_ble_eq_true rfl)
  replace at_1 := va_at.keptA (b := h0) (z := 9) 1 at_1 o_34 (Nat.le_of_ble_eq_true rfl)
  replace at_5 := va_at.keptA (b := h0) (z := 9) 2 at_5 o_34 (Nat.le_of_ble_eq_true rfl)
  replace at_9 := va_at.keptA (b := h0) (z := 9) 3 at_9 o_34 (Nat.le_of_ble_eq_true rfl)
  replace at_13 := va_at.keptA (b := h0) (z := 9) 4 at_13 o_34 (Nat.le_of_ble_eq_true rfl)
  replace at_17 := va_at.keptA (b := h0) (z := 9) 5 at_17 o_34 (Nat.le_of_ble_eq_true rfl)
  replace at_21 := va_at.keptA (b := h0) (z := 9) 6 at_21 o_34 (Nat.le_of_ble_eq_true rfl)
  replace at_25 := va_at.keptA (b := h0) (z := 9) 7 at_25 o_34 (Nat.le_of_ble_eq_true rfl)
  replace at_29 := va_at.keptA (b := h0) (z := 9) 8 at_29 o_34 (Nat.le_of_ble_eq_true rfl)
  clear o_34
  have hz : H.size = h0 + 10 := hz
  refine nw_putF (D := D) (ci := 9) (v := .ref (h0 + 9)) (ty := .array .long) (C := RX10) (T := TX10) (N := 36) hx hb hts in10 tyX10 tyX10_ok nmX10 hown hK hS (Nat.le_refl _) at0 rfl 12 (by decide) (hts (.fieldLink RX10 35 "RiverModelModel" "kept" "[J") (List.mem_of_getElem? (i := 14) rfl)) (fun _ h9 => h9) rfl hin rfl (by decide +kernel) rfl rfl (Nat.le_of_ble_eq_true rfl) dX10_init_79 (fun H locs at0 hz_36 o_35 hS => ?_)
  have at0 : va_at D vwCl (h0, .inr (9, [.int 0, .ref (h0 + 1), .int 0, .int 0, .ref (h0 + 2), .ref (h0 + 3), .ref (h0 + 4), .ref (h0 + 5), .int 0, .ref (h0 + 6), .ref (h0 + 7), .ref (h0 + 8), .ref (h0 + 9), .int 0, .null, .null, .null, .int 0, .null, .null, .null, .null, .null, .null, .null, .null, .null, .int 0, .int 0, .int 0, .int 0, .int 0, .null, .int 0, .int 0, .null])) H := at0
  replace hz : H.size = h0 + 10 := hz_36.trans hz
  replace at_1 := va_at.keptP (b := h0) (j := 0) 1 at_1 o_35 rfl
  replace at_5 := va_at.keptP (b := h0) (j := 0) 2 at_5 o_35 rfl
  replace at_9 := va_at.keptP (b := h0) (j := 0) 3 at_9 o_35 rfl
  replace at_13 := va_at.keptP (b := h0) (j := 0) 4 at_13 o_35 rfl
  replace at_17 := va_at.keptP (b := h0) (j := 0) 5 at_17 o_35 rfl
  replace at_21 := va_at.keptP (b := h0) (j := 0) 6 at_21 o_35 rfl
  replace at_25 := va_at.keptP (b := h0) (j := 0) 7 at_25 o_35 rfl
  replace at_29 := va_at.keptP (b := h0) (j := 0) 8 at_29 o_35 rfl
  replace at_33 := va_at.keptP (b := h0) (j := 0) 9 at_33 o_35 rfl
  clear o_35 hz_36
  refine lv_aload_n hx hb dX10_init_82 rfl (lv_at hl 0 rfl) ?_
  refine lv_pc (pc2 := 83) rfl ?_
  refine lv_iconst (v := 4) hx hb dX10_init_83 (by decide) ?_
  refine nw_newI (N := 4) (z := h0 + 10) hx hb (hts (.arrayClass .int) (List.mem_of_getElem? (i := 4) rfl)) hK hS hz (Nat.le_add_right _ _) (by decide) (by decide) (by decide) (Nat.le_of_ble_eq_true rfl) (Nat.le_of_ble_eq_true rfl) dX10_init_84 (fun H at_37 hz o_38 hS => ?_)
  replace at0 := va_at.keptA (b := h0) (z := 10) 0 at0 o_38 (Nat.le_of_ble_eq_true rfl)
  replace at_1 := va_at.keptA (b := h0) (z := 10) 1 at_1 o_38 (Nat.le_of_ble_eq_true rfl)
  replace at_5 := va_at.keptA (b := h0) (z := 10) 2 at_5 o_38 (Nat.le_of_ble_eq_true rfl)
  replace at_9 := va_at.keptA (b := h0) (z := 10) 3 at_9 o_38 (Nat.le_of_ble_eq_true rfl)
  replace at_13 := va_at.keptA (b := h0) (z := 10) 4 at_13 o_38 (Nat.le_of_ble_eq_true rfl)
  replace at_17 := va_at.keptA (b := h0) (z := 10) 5 at_17 o_38 (Nat.le_of_ble_eq_true rfl)
  replace at_21 := va_at.keptA (b := h0) (z := 10) 6 at_21 o_38 (Nat.le_of_ble_eq_true rfl)
  replace at_25 := va_at.keptA (b := h0) (z := 10) 7 at_25 o_38 (Nat.le_of_ble_eq_true rfl)
  replace at_29 := va_at.keptA (b := h0) (z := 10) 8 at_29 o_38 (Nat.le_of_ble_eq_true rfl)
  replace at_33 := va_at.keptA (b := h0) (z := 10) 9 at_33 o_38 (Nat.le_of_ble_eq_true rfl)
  clear o_38
  have hz : H.size = h0 + 11 := hz
  refine nw_putF (D := D) (ci := 9) (v := .ref (h0 + 10)) (ty := .array .int) (C := RX10) (T := TX10) (N := 36) hx hb hts in10 tyX10 tyX10_ok nmX10 hown hK hS (Nat.le_refl _) at0 rfl 14 (by decide) (hts (.fieldLink RX10 38 "RiverModelModel" "gaugeKind" "[I") (List.mem_of_getElem? (i := 15) rfl)) (fun _ h9 => h9) rfl hin rfl (by decide +kernel) rfl rfl (Nat.le_of_ble_eq_true rfl) dX10_init_86 (fun H locs at0 hz_40 o_39 hS => ?_)
  have at0 : va_at D vwCl (h0, .inr (9, [.int 0, .ref (h0 + 1), .int 0, .int 0, .ref (h0 + 2), .ref (h0 + 3), .ref (h0 + 4), .ref (h0 + 5), .int 0, .ref (h0 + 6), .ref (h0 + 7), .ref (h0 + 8), .ref (h0 + 9), .int 0, .ref (h0 + 10), .null, .null, .int 0, .null, .null, .null, .null, .null, .null, .null, .null, .null, .int 0, .int 0, .int 0, .int 0, .int 0, .null, .int 0, .int 0, .null])) H := at0
  replace hz : H.size = h0 + 11 := hz_40.trans hz
  replace at_1 := va_at.keptP (b := h0) (j := 0) 1 at_1 o_39 rfl
  replace at_5 := va_at.keptP (b := h0) (j := 0) 2 at_5 o_39 rfl
  replace at_9 := va_at.keptP (b := h0) (j := 0) 3 at_9 o_39 rfl
  replace at_13 := va_at.keptP (b := h0) (j := 0) 4 at_13 o_39 rfl
  replace at_17 := va_at.keptP (b := h0) (j := 0) 5 at_17 o_39 rfl
  replace at_21 := va_at.keptP (b := h0) (j := 0) 6 at_21 o_39 rfl
  replace at_25 := va_at.keptP (b := h0) (j := 0) 7 at_25 o_39 rfl
  replace at_29 := va_at.keptP (b := h0) (j := 0) 8 at_29 o_39 rfl
  replace at_33 := va_at.keptP (b := h0) (j := 0) 9 at_33 o_39 rfl
  replace at_37 := va_at.keptP (b := h0) (j := 0) 10 at_37 o_39 rfl
  clear o_39 hz_40
  refine lv_aload_n hx hb dX10_init_89 rfl (lv_at hl 0 rfl) ?_
  refine lv_iconst (v := 4) hx hb dX10_init_90 (by decide) ?_
  refine nw_newI (N := 4) (z := h0 + 11) hx hb (hts (.arrayClass .int) (List.mem_of_getElem? (i := 4) rfl)) hK hS hz (Nat.le_add_right _ _) (by decide) (by decide) (by decide) (Nat.le_of_ble_eq_true rfl) (Nat.le_of_ble_eq_true rfl) dX10_init_91 (fun H at_41 hz o_42 hS => ?_)
  replace at0 := va_at.keptA (b := h0) (z := 11) 0 at0 o_42 (Nat.le_of_ble_eq_true rfl)
  replace at_1 := va_at.keptA (b := h0) (z := 11) 1 at_1 o_42 (Nat.le_of_ble_eq_true rfl)
  replace at_5 := va_at.keptA (b := h0) (z := 11) 2 at_5 o_42 (Nat.le_of_ble_eq_true rfl)
  replace at_9 := va_at.keptA (b := h0) (z := 11) 3 at_9 o_42 (Nat.le_of_ble_eq_true rfl)
  replace at_13 := va_at.keptA (b := h0) (z := 11) 4 at_13 o_42 (Nat.le_of_ble_eq_true rfl)
  replace at_17 := va_at.keptA (b := h0) (z := 11) 5 at_17 o_42 (Nat.le_of_ble_eq_true rfl)
  replace at_21 := va_at.keptA (b := h0) (z := 11) 6 at_21 o_42 (Nat.le_of_ble_eq_true rfl)
  replace at_25 := va_at.keptA (b := h0) (z := 11) 7 at_25 o_42 (Nat.le_of_ble_eq_true rfl)
  replace at_29 := va_at.keptA (b := h0) (z := 11) 8 at_29 o_42 (Nat.le_of_ble_eq_true rfl)
  replace at_33 := va_at.keptA (b := h0) (z := 11) 9 at_33 o_42 (Nat.le_of_ble_eq_true rfl)
  replace at_37 := va_at.keptA (b := h0) (z := 11) 10 at_37 o_42 (Nat.le_of_ble_eq_true rfl)
  clear o_42
  have hz : H.size = h0 + 12 := hz
  refine nw_putF (D := D) (ci := 9) (v := .ref (h0 + 11)) (ty := .array .int) (C := RX10) (T := TX10) (N := 36) hx hb hts in10 tyX10 tyX10_ok nmX10 hown hK hS (Nat.le_refl _) at0 rfl 15 (by decide) (hts (.fieldLink RX10 41 "RiverModelModel" "gaugeAt" "[I") (List.mem_of_getElem? (i := 16) rfl)) (fun _ h9 => h9) rfl hin rfl (by decide +kernel) rfl rfl (Nat.le_of_ble_eq_true rfl) dX10_init_93 (fun H locs at0 hz_44 o_43 hS => ?_)
  have at0 : va_at D vwCl (h0, .inr (9, [.int 0, .ref (h0 + 1), .int 0, .int 0, .ref (h0 + 2), .ref (h0 + 3), .ref (h0 + 4), .ref (h0 + 5), .int 0, .ref (h0 + 6), .ref (h0 + 7), .ref (h0 + 8), .ref (h0 + 9), .int 0, .ref (h0 + 10), .ref (h0 + 11), .null, .int 0, .null, .null, .null, .null, .null, .null, .null, .null, .null, .int 0, .int 0, .int 0, .int 0, .int 0, .null, .int 0, .int 0, .null])) H := at0
  replace hz : H.size = h0 + 12 := hz_44.trans hz
  replace at_1 := va_at.keptP (b := h0) (j := 0) 1 at_1 o_43 rfl
  replace at_5 := va_at.keptP (b := h0) (j := 0) 2 at_5 o_43 rfl
  replace at_9 := va_at.keptP (b := h0) (j := 0) 3 at_9 o_43 rfl
  replace at_13 := va_at.keptP (b := h0) (j := 0) 4 at_13 o_43 rfl
  replace at_17 := va_at.keptP (b := h0) (j := 0) 5 at_17 o_43 rfl
  replace at_21 := va_at.keptP (b := h0) (j := 0) 6 at_21 o_43 rfl
  replace at_25 := va_at.keptP (b := h0) (j := 0) 7 at_25 o_43 rfl
  replace at_29 := va_at.keptP (b := h0) (j := 0) 8 at_29 o_43 rfl
  replace at_33 := va_at.keptP (b := h0) (j := 0) 9 at_33 o_43 rfl
  replace at_37 := va_at.keptP (b := h0) (j := 0) 10 at_37 o_43 rfl
  replace at_41 := va_at.keptP (b := h0) (j := 0) 11 at_41 o_43 rfl
  clear o_43 hz_44
  refine lv_aload_n hx hb dX10_init_96 rfl (lv_at hl 0 rfl) ?_
  refine lv_pc (pc2 := 97) rfl ?_
  refine lv_sipush (v := 384) hx hb dX10_init_97 (by decide) ?_
  refine nw_newI (N := 384) (z := h0 + 12) hx hb (hts (.arrayClass .int) (List.mem_of_getElem? (i := 4) rfl)) hK hS hz (Nat.le_add_right _ _) (by decide) (by decide) (by decide) (Nat.le_of_ble_eq_true rfl) (Nat.le_of_ble_eq_true rfl) dX10_init_100 (fun H at_45 hz o_46 hS => ?_)
  replace at0 := va_at.keptA (b := h0) (z := 12) 0 at0 o_46 (Nat.le_of_ble_eq_true rfl)
  replace at_1 := va_at.keptA (b := h0) (z := 12) 1 at_1 o_46 (Nat.le_of_ble_eq_true rfl)
  replace at_5 := va_at.keptA (b := h0) (z := 12) 2 at_5 o_46 (Nat.le_of_ble_eq_true rfl)
  replace at_9 := va_at.keptA (b := h0) (z := 12) 3 at_9 o_46 (Nat.le_of_ble_eq_true rfl)
  replace at_13 := va_at.keptA (b := h0) (z := 12) 4 at_13 o_46 (Nat.le_of_ble_eq_true rfl)
  replace at_17 := va_at.keptA (b := h0) (z := 12) 5 at_17 o_46 (Nat.le_of_ble_eq_true rfl)
  replace at_21 := va_at.keptA (b := h0) (z := 12) 6 at_21 o_46 (Nat.le_of_ble_eq_true rfl)
  replace at_25 := va_at.keptA (b := h0) (z := 12) 7 at_25 o_46 (Nat.le_of_ble_eq_true rfl)
  replace at_29 := va_at.keptA (b := h0) (z := 12) 8 at_29 o_46 (Nat.le_of_ble_eq_true rfl)
  replace at_33 := va_at.keptA (b := h0) (z := 12) 9 at_33 o_46 (Nat.le_of_ble_eq_true rfl)
  replace at_37 := va_at.keptA (b := h0) (z := 12) 10 at_37 o_46 (Nat.le_of_ble_eq_true rfl)
  replace at_41 := va_at.keptA (b := h0) (z := 12) 11 at_41 o_46 (Nat.le_of_ble_eq_true rfl)
  clear o_46
  have hz : H.size = h0 + 13 := hz
  refine nw_putF (D := D) (ci := 9) (v := .ref (h0 + 12)) (ty := .array .int) (C := RX10) (T := TX10) (N := 36) hx hb hts in10 tyX10 tyX10_ok nmX10 hown hK hS (Nat.le_refl _) at0 rfl 16 (by decide) (hts (.fieldLink RX10 44 "RiverModelModel" "seen" "[I") (List.mem_of_getElem? (i := 17) rfl)) (fun _ h9 => h9) rfl hin rfl (by decide +kernel) rfl rfl (Nat.le_of_ble_eq_true rfl) dX10_init_102 (fun H locs at0 hz_48 o_47 hS => ?_)
  have at0 : va_at D vwCl (h0, .inr (9, [.int 0, .ref (h0 + 1), .int 0, .int 0, .ref (h0 + 2), .ref (h0 + 3), .ref (h0 + 4), .ref (h0 + 5), .int 0, .ref (h0 + 6), .ref (h0 + 7), .ref (h0 + 8), .ref (h0 + 9), .int 0, .ref (h0 + 10), .ref (h0 + 11), .ref (h0 + 12), .int 0, .null, .null, .null, .null, .null, .null, .null, .null, .null, .int 0, .int 0, .int 0, .int 0, .int 0, .null, .int 0, .int 0, .null])) H := at0
  replace hz : H.size = h0 + 13 := hz_48.trans hz
  replace at_1 := va_at.keptP (b := h0) (j := 0) 1 at_1 o_47 rfl
  replace at_5 := va_at.keptP (b := h0) (j := 0) 2 at_5 o_47 rfl
  replace at_9 := va_at.keptP (b := h0) (j := 0) 3 at_9 o_47 rfl
  replace at_13 := va_at.keptP (b := h0) (j := 0) 4 at_13 o_47 rfl
  replace at_17 := va_at.keptP (b := h0) (j := 0) 5 at_17 o_47 rfl
  replace at_21 := va_at.keptP (b := h0) (j := 0) 6 at_21 o_47 rfl
  replace at_25 := va_at.keptP (b := h0) (j := 0) 7 at_25 o_47 rfl
  replace at_29 := va_at.keptP (b := h0) (j := 0) 8 at_29 o_47 rfl
  replace at_33 := va_at.keptP (b := h0) (j := 0) 9 at_33 o_47 rfl
  replace at_37 := va_at.keptP (b := h0) (j := 0) 10 at_37 o_47 rfl
  replace at_41 := va_at.keptP (b := h0) (j := 0) 11 at_41 o_47 rfl
  replace at_45 := va_at.keptP (b := h0) (j := 0) 12 at_45 o_47 rfl
  clear o_47 hz_48
  refine lv_aload_n hx hb dX10_init_105 rfl (lv_at hl 0 rfl) ?_
  refine lv_iconst (v := 2) hx hb dX10_init_106 (by decide) ?_
  refine nw_newI (N := 2) (z := h0 + 13) hx hb (hts (.arrayClass .int) (List.mem_of_getElem? (i := 4) rfl)) hK hS hz (Nat.le_add_right _ _) (by decide) (by decide) (by decide) (Nat.le_of_ble_eq_true rfl) (Nat.le_of_ble_eq_true rfl) dX10_init_107 (fun H at_49 hz o_50 hS => ?_)
  replace at0 := va_at.keptA (b := h0) (z := 13) 0 at0 o_50 (Nat.le_of_ble_eq_true rfl)
  replace at_1 := va_at.keptA (b := h0) (z := 13) 1 at_1 o_50 (Nat.le_of_ble_eq_true rfl)
  replace at_5 := va_at.keptA (b := h0) (z := 13) 2 at_5 o_50 (Nat.le_of_ble_eq_true rfl)
  replace at_9 := va_at.keptA (b := h0) (z := 13) 3 at_9 o_50 (Nat.le_of_ble_eq_true rfl)
  replace at_13 := va_at.keptA (b := h0) (z := 13) 4 at_13 o_50 (Nat.le_of_ble_eq_true rfl)
  replace at_17 := va_at.keptA (b := h0) (z := 13) 5 at_17 o_50 (Nat.le_of_ble_eq_true rfl)
  replace at_21 := va_at.keptA (b := h0) (z := 13) 6 at_21 o_50 (Nat.le_of_ble_eq_true rfl)
  replace at_25 := va_at.keptA (b := h0) (z := 13) 7 at_25 o_50 (Nat.le_of_ble_eq_true rfl)
  replace at_29 := va_at.keptA (b := h0) (z := 13) 8 at_29 o_50 (Nat.le_of_ble_eq_true rfl)
  replace at_33 := va_at.keptA (b := h0) (z := 13) 9 at_33 o_50 (Nat.le_of_ble_eq_true rfl)
  replace at_37 := va_at.keptA (b := h0) (z := 13) 10 at_37 o_50 (Nat.le_of_ble_eq_true rfl)
  replace at_41 := va_at.keptA (b := h0) (z := 13) 11 at_41 o_50 (Nat.le_of_ble_eq_true rfl)
  replace at_45 := va_at.keptA (b := h0) (z := 13) 12 at_45 o_50 (Nat.le_of_ble_eq_true rfl)
  clear o_50
  have hz : H.size = h0 + 14 := hz
  refine nw_putF (D := D) (ci := 9) (v := .ref (h0 + 13)) (ty := .array .int) (C := RX10) (T := TX10) (N := 36) hx hb hts in10 tyX10 tyX10_ok nmX10 hown hK hS (Nat.le_refl _) at0 rfl 18 (by decide) (hts (.fieldLink RX10 47 "RiverModelModel" "knobItem" "[I") (List.mem_of_getElem? (i := 18) rfl)) (fun _ h9 => h9) rfl hin rfl (by decide +kernel) rfl rfl (Nat.le_of_ble_eq_true rfl) dX10_init_109 (fun H locs at0 hz_52 o_51 hS => ?_)
  have at0 : va_at D vwCl (h0, .inr (9, [.int 0, .ref (h0 + 1), .int 0, .int 0, .ref (h0 + 2), .ref (h0 + 3), .ref (h0 + 4), .ref (h0 + 5), .int 0, .ref (h0 + 6), .ref (h0 + 7), .ref (h0 + 8), .ref (h0 + 9), .int 0, .ref (h0 + 10), .ref (h0 + 11), .ref (h0 + 12), .int 0, .ref (h0 + 13), .null, .null, .null, .null, .null, .null, .null, .null, .int 0, .int 0, .int 0, .int 0, .int 0, .null, .int 0, .int 0, .null])) H := at0
  replace hz : H.size = h0 + 14 := hz_52.trans hz
  replace at_1 := va_at.keptP (b := h0) (j := 0) 1 at_1 o_51 rfl
  replace at_5 := va_at.keptP (b := h0) (j := 0) 2 at_5 o_51 rfl
  replace at_9 := va_at.keptP (b := h0) (j := 0) 3 at_9 o_51 rfl
  replace at_13 := va_at.keptP (b := h0) (j := 0) 4 at_13 o_51 rfl
  replace at_17 := va_at.keptP (b := h0) (j := 0) 5 at_17 o_51 rfl
  replace at_21 := va_at.keptP (b := h0) (j := 0) 6 at_21 o_51 rfl
  replace at_25 := va_at.keptP (b := h0) (j := 0) 7 at_25 o_51 rfl
  replace at_29 := va_at.keptP (b := h0) (j := 0) 8 at_29 o_51 rfl
  replace at_33 := va_at.keptP (b := h0) (j := 0) 9 at_33 o_51 rfl
  replace at_37 := va_at.keptP (b := h0) (j := 0) 10 at_37 o_51 rfl
  replace at_41 := va_at.keptP (b := h0) (j := 0) 11 at_41 o_51 rfl
  replace at_45 := va_at.keptP (b := h0) (j := 0) 12 at_45 o_51 rfl
  replace at_49 := va_at.keptP (b := h0) (j := 0) 13 at_49 o_51 rfl
  clear o_51 hz_52
  refine lv_aload_n hx hb dX10_init_112 rfl (lv_at hl 0 rfl) ?_
  refine lv_pc (pc2 := 113) rfl ?_
  refine lv_iconst (v := 2) hx hb dX10_init_113 (by decide) ?_
  refine nw_newI (N := 2) (z := h0 + 14) hx hb (hts (.arrayClass .int) (List.mem_of_getElem? (i := 4) rfl)) hK hS hz (Nat.le_add_right _ _) (by decide) (by decide) (by decide) (Nat.le_of_ble_eq_true rfl) (Nat.le_of_ble_eq_true rfl) dX10_init_114 (fun H at_53 hz o_54 hS => ?_)
  replace at0 := va_at.keptA (b := h0) (z := 14) 0 at0 o_54 (Nat.le_of_ble_eq_true rfl)
  replace at_1 := va_at.keptA (b := h0) (z := 14) 1 at_1 o_54 (Nat.le_of_ble_eq_true rfl)
  replace at_5 := va_at.keptA (b := h0) (z := 14) 2 at_5 o_54 (Nat.le_of_ble_eq_true rfl)
  replace at_9 := va_at.keptA (b := h0) (z := 14) 3 at_9 o_54 (Nat.le_of_ble_eq_true rfl)
  replace at_13 := va_at.keptA (b := h0) (z := 14) 4 at_13 o_54 (Nat.le_of_ble_eq_true rfl)
  replace at_17 := va_at.keptA (b := h0) (z := 14) 5 at_17 o_54 (Nat.le_of_ble_eq_true rfl)
  replace at_21 := va_at.keptA (b := h0) (z := 14) 6 at_21 o_54 (Nat.le_of_ble_eq_true rfl)
  replace at_25 := va_at.keptA (b := h0) (z := 14) 7 at_25 o_54 (Nat.le_of_ble_eq_true rfl)
  replace at_29 := va_at.keptA (b := h0) (z := 14) 8 at_29 o_54 (Nat.le_of_ble_eq_true rfl)
  replace at_33 := va_at.keptA (b := h0) (z := 14) 9 at_33 o_54 (Nat.le_of_ble_eq_true rfl)
  replace at_37 := va_at.keptA (b := h0) (z := 14) 10 at_37 o_54 (Nat.le_of_ble_eq_true rfl)
  replace at_41 := va_at.keptA (b := h0) (z := 14) 11 at_41 o_54 (Nat.le_of_ble_eq_true rfl)
  replace at_45 := va_at.keptA (b := h0) (z := 14) 12 at_45 o_54 (Nat.le_of_ble_eq_true rfl)
  replace at_49 := va_at.keptA (b := h0) (z := 14) 13 at_49 o_54 (Nat.le_of_ble_eq_true rfl)
  clear o_54
  have hz : H.size = h0 + 15 := hz
  refine nw_putF (D := D) (ci := 9) (v := .ref (h0 + 14)) (ty := .array .int) (C := RX10) (T := TX10) (N := 36) hx hb hts in10 tyX10 tyX10_ok nmX10 hown hK hS (Nat.le_refl _) at0 rfl 19 (by decide) (hts (.fieldLink RX10 50 "RiverModelModel" "knobAt" "[I") (List.mem_of_getElem? (i := 19) rfl)) (fun _ h9 => h9) rfl hin rfl (by decide +kernel) rfl rfl (Nat.le_of_ble_eq_true rfl) dX10_init_116 (fun H locs at0 hz_56 o_55 hS => ?_)
  have at0 : va_at D vwCl (h0, .inr (9, [.int 0, .ref (h0 + 1), .int 0, .int 0, .ref (h0 + 2), .ref (h0 + 3), .ref (h0 + 4), .ref (h0 + 5), .int 0, .ref (h0 + 6), .ref (h0 + 7), .ref (h0 + 8), .ref (h0 + 9), .int 0, .ref (h0 + 10), .ref (h0 + 11), .ref (h0 + 12), .int 0, .ref (h0 + 13), .ref (h0 + 14), .null, .null, .null, .null, .null, .null, .null, .int 0, .int 0, .int 0, .int 0, .int 0, .null, .int 0, .int 0, .null])) H := at0
  replace hz : H.size = h0 + 15 := hz_56.trans hz
  replace at_1 := va_at.keptP (b := h0) (j := 0) 1 at_1 o_55 rfl
  replace at_5 := va_at.keptP (b := h0) (j := 0) 2 at_5 o_55 rfl
  replace at_9 := va_at.keptP (b := h0) (j := 0) 3 at_9 o_55 rfl
  replace at_13 := va_at.keptP (b := h0) (j := 0) 4 at_13 o_55 rfl
  replace at_17 := va_at.keptP (b := h0) (j := 0) 5 at_17 o_55 rfl
  replace at_21 := va_at.keptP (b := h0) (j := 0) 6 at_21 o_55 rfl
  replace at_25 := va_at.keptP (b := h0) (j := 0) 7 at_25 o_55 rfl
  replace at_29 := va_at.keptP (b := h0) (j := 0) 8 at_29 o_55 rfl
  replace at_33 := va_at.keptP (b := h0) (j := 0) 9 at_33 o_55 rfl
  replace at_37 := va_at.keptP (b := h0) (j := 0) 10 at_37 o_55 rfl
  replace at_41 := va_at.keptP (b := h0) (j := 0) 11 at_41 o_55 rfl
  replace at_45 := va_at.keptP (b := h0) (j := 0) 12 at_45 o_55 rfl
  replace at_49 := va_at.keptP (b := h0) (j := 0) 13 at_49 o_55 rfl
  replace at_53 := va_at.keptP (b := h0) (j := 0) 14 at_53 o_55 rfl
  clear o_55 hz_56
  refine lv_aload_n hx hb dX10_init_119 rfl (lv_at hl 0 rfl) ?_
  refine lv_iconst (v := 2) hx hb dX10_init_120 (by decide) ?_
  refine nw_newI (N := 2) (z := h0 + 15) hx hb (hts (.arrayClass .int) (List.mem_of_getElem? (i := 4) rfl)) hK hS hz (Nat.le_add_right _ _) (by decide) (by decide) (by decide) (Nat.le_of_ble_eq_true rfl) (Nat.le_of_ble_eq_true rfl) dX10_init_121 (fun H at_57 hz o_58 hS => ?_)
  replace at0 := va_at.keptA (b := h0) (z := 15) 0 at0 o_58 (Nat.le_of_ble_eq_true rfl)
  replace at_1 := va_at.keptA (b := h0) (z := 15) 1 at_1 o_58 (Nat.le_of_ble_eq_true rfl)
  replace at_5 := va_at.keptA (b := h0) (z := 15) 2 at_5 o_58 (Nat.le_of_ble_eq_true rfl)
  replace at_9 := va_at.keptA (b := h0) (z := 15) 3 at_9 o_58 (Nat.le_of_ble_eq_true rfl)
  replace at_13 := va_at.keptA (b := h0) (z := 15) 4 at_13 o_58 (Nat.le_of_ble_eq_true rfl)
  replace at_17 := va_at.keptA (b := h0) (z := 15) 5 at_17 o_58 (Nat.le_of_ble_eq_true rfl)
  replace at_21 := va_at.keptA (b := h0) (z := 15) 6 at_21 o_58 (Nat.le_of_ble_eq_true rfl)
  replace at_25 := va_at.keptA (b := h0) (z := 15) 7 at_25 o_58 (Nat.le_of_ble_eq_true rfl)
  replace at_29 := va_at.keptA (b := h0) (z := 15) 8 at_29 o_58 (Nat.le_of_ble_eq_true rfl)
  replace at_33 := va_at.keptA (b := h0) (z := 15) 9 at_33 o_58 (Nat.le_of_ble_eq_true rfl)
  replace at_37 := va_at.keptA (b := h0) (z := 15) 10 at_37 o_58 (Nat.le_of_ble_eq_true rfl)
  replace at_41 := va_at.keptA (b := h0) (z := 15) 11 at_41 o_58 (Nat.le_of_ble_eq_true rfl)
  replace at_45 := va_at.keptA (b := h0) (z := 15) 12 at_45 o_58 (Nat.le_of_ble_eq_true rfl)
  replace at_49 := va_at.keptA (b := h0) (z := 15) 13 at_49 o_58 (Nat.le_of_ble_eq_true rfl)
  replace at_53 := va_at.keptA (b := h0) (z := 15) 14 at_53 o_58 (Nat.le_of_ble_eq_true rfl)
  clear o_58
  have hz : H.size = h0 + 16 := hz
  refine nw_putF (D := D) (ci := 9) (v := .ref (h0 + 15)) (ty := .array .int) (C := RX10) (T := TX10) (N := 36) hx hb hts in10 tyX10 tyX10_ok nmX10 hown hK hS (Nat.le_refl _) at0 rfl 20 (by decide) (hts (.fieldLink RX10 53 "RiverModelModel" "knobFrom" "[I") (List.mem_of_getElem? (i := 20) rfl)) (fun _ h9 => h9) rfl hin rfl (by decide +kernel) rfl rfl (Nat.le_of_ble_eq_true rfl) dX10_init_123 (fun H locs at0 hz_60 o_59 hS => ?_)
  have at0 : va_at D vwCl (h0, .inr (9, [.int 0, .ref (h0 + 1), .int 0, .int 0, .ref (h0 + 2), .ref (h0 + 3), .ref (h0 + 4), .ref (h0 + 5), .int 0, .ref (h0 + 6), .ref (h0 + 7), .ref (h0 + 8), .ref (h0 + 9), .int 0, .ref (h0 + 10), .ref (h0 + 11), .ref (h0 + 12), .int 0, .ref (h0 + 13), .ref (h0 + 14), .ref (h0 + 15), .null, .null, .null, .null, .null, .null, .int 0, .int 0, .int 0, .int 0, .int 0, .null, .int 0, .int 0, .null])) H := at0
  replace hz : H.size = h0 + 16 := hz_60.trans hz
  replace at_1 := va_at.keptP (b := h0) (j := 0) 1 at_1 o_59 rfl
  replace at_5 := va_at.keptP (b := h0) (j := 0) 2 at_5 o_59 rfl
  replace at_9 := va_at.keptP (b := h0) (j := 0) 3 at_9 o_59 rfl
  replace at_13 := va_at.keptP (b := h0) (j := 0) 4 at_13 o_59 rfl
  replace at_17 := va_at.keptP (b := h0) (j := 0) 5 at_17 o_59 rfl
  replace at_21 := va_at.keptP (b := h0) (j := 0) 6 at_21 o_59 rfl
  replace at_25 := va_at.keptP (b := h0) (j := 0) 7 at_25 o_59 rfl
  replace at_29 := va_at.keptP (b := h0) (j := 0) 8 at_29 o_59 rfl
  replace at_33 := va_at.keptP (b := h0) (j := 0) 9 at_33 o_59 rfl
  replace at_37 := va_at.keptP (b := h0) (j := 0) 10 at_37 o_59 rfl
  replace at_41 := va_at.keptP (b := h0) (j := 0) 11 at_41 o_59 rfl
  replace at_45 := va_at.keptP (b := h0) (j := 0) 12 at_45 o_59 rfl
  replace at_49 := va_at.keptP (b := h0) (j := 0) 13 at_49 o_59 rfl
  replace at_53 := va_at.keptP (b := h0) (j := 0) 14 at_53 o_59 rfl
  replace at_57 := va_at.keptP (b := h0) (j := 0) 15 at_57 o_59 rfl
  clear o_59 hz_60
  refine lv_aload_n hx hb dX10_init_126 rfl (lv_at hl 0 rfl) ?_
  refine lv_pc (pc2 := 127) rfl ?_
  refine lv_iconst (v := 2) hx hb dX10_init_127 (by decide) ?_
  refine nw_newI (N := 2) (z := h0 + 16) hx hb (hts (.arrayClass .int) (List.mem_of_getElem? (i := 4) rfl)) hK hS hz (Nat.le_add_right _ _) (by decide) (by decide) (by decide) (Nat.le_of_ble_eq_true rfl) (Nat.le_of_ble_eq_true rfl) dX10_init_128 (fun H at_61 hz o_62 hS => ?_)
  replace at0 := va_at.keptA (b := h0) (z := 16) 0 at0 o_62 (Nat.le_of_ble_eq_true rfl)
  replace at_1 := va_at.keptA (b := h0) (z := 16) 1 at_1 o_62 (Nat.le_of_ble_eq_true rfl)
  replace at_5 := va_at.keptA (b := h0) (z := 16) 2 at_5 o_62 (Nat.le_of_ble_eq_true rfl)
  replace at_9 := va_at.keptA (b := h0) (z := 16) 3 at_9 o_62 (Nat.le_of_ble_eq_true rfl)
  replace at_13 := va_at.keptA (b := h0) (z := 16) 4 at_13 o_62 (Nat.le_of_ble_eq_true rfl)
  replace at_17 := va_at.keptA (b := h0) (z := 16) 5 at_17 o_62 (Nat.le_of_ble_eq_true rfl)
  replace at_21 := va_at.keptA (b := h0) (z := 16) 6 at_21 o_62 (Nat.le_of_ble_eq_true rfl)
  replace at_25 := va_at.keptA (b := h0) (z := 16) 7 at_25 o_62 (Nat.le_of_ble_eq_true rfl)
  replace at_29 := va_at.keptA (b := h0) (z := 16) 8 at_29 o_62 (Nat.le_of_ble_eq_true rfl)
  replace at_33 := va_at.keptA (b := h0) (z := 16) 9 at_33 o_62 (Nat.le_of_ble_eq_true rfl)
  replace at_37 := va_at.keptA (b := h0) (z := 16) 10 at_37 o_62 (Nat.le_of_ble_eq_true rfl)
  replace at_41 := va_at.keptA (b := h0) (z := 16) 11 at_41 o_62 (Nat.le_of_ble_eq_true rfl)
  replace at_45 := va_at.keptA (b := h0) (z := 16) 12 at_45 o_62 (Nat.le_of_ble_eq_true rfl)
  replace at_49 := va_at.keptA (b := h0) (z := 16) 13 at_49 o_62 (Nat.le_of_ble_eq_true rfl)
  replace at_53 := va_at.keptA (b := h0) (z := 16) 14 at_53 o_62 (Nat.le_of_ble_eq_true rfl)
  replace at_57 := va_at.keptA (b := h0) (z := 16) 15 at_57 o_62 (Nat.le_of_ble_eq_true rfl)
  clear o_62
  have hz : H.size = h0 + 17 := hz
  refine nw_putF (D := D) (ci := 9) (v := .ref (h0 + 16)) (ty := .array .int) (C := RX10) (T := TX10) (N := 36) hx hb hts in10 tyX10 tyX10_ok nmX10 hown hK hS (Nat.le_refl _) at0 rfl 21 (by decide) (hts (.fieldLink RX10 56 "RiverModelModel" "knobStep" "[I") (List.mem_of_getElem? (i := 21) rfl)) (fun _ h9 => h9) rfl hin rfl (by decide +kernel) rfl rfl (Nat.le_of_ble_eq_true rfl) dX10_init_130 (fun H locs at0 hz_64 o_63 hS => ?_)
  have at0 : va_at D vwCl (h0, .inr (9, [.int 0, .ref (h0 + 1), .int 0, .int 0, .ref (h0 + 2), .ref (h0 + 3), .ref (h0 + 4), .ref (h0 + 5), .int 0, .ref (h0 + 6), .ref (h0 + 7), .ref (h0 + 8), .ref (h0 + 9), .int 0, .ref (h0 + 10), .ref (h0 + 11), .ref (h0 + 12), .int 0, .ref (h0 + 13), .ref (h0 + 14), .ref (h0 + 15), .ref (h0 + 16), .null, .null, .null, .null, .null, .int 0, .int 0, .int 0, .int 0, .int 0, .null, .int 0, .int 0, .null])) H := at0
  replace hz : H.size = h0 + 17 := hz_64.trans hz
  replace at_1 := va_at.keptP (b := h0) (j := 0) 1 at_1 o_63 rfl
  replace at_5 := va_at.keptP (b := h0) (j := 0) 2 at_5 o_63 rfl
  replace at_9 := va_at.keptP (b := h0) (j := 0) 3 at_9 o_63 rfl
  replace at_13 := va_at.keptP (b := h0) (j := 0) 4 at_13 o_63 rfl
  replace at_17 := va_at.keptP (b := h0) (j := 0) 5 at_17 o_63 rfl
  replace at_21 := va_at.keptP (b := h0) (j := 0) 6 at_21 o_63 rfl
  replace at_25 := va_at.keptP (b := h0) (j := 0) 7 at_25 o_63 rfl
  replace at_29 := va_at.keptP (b := h0) (j := 0) 8 at_29 o_63 rfl
  replace at_33 := va_at.keptP (b := h0) (j := 0) 9 at_33 o_63 rfl
  replace at_37 := va_at.keptP (b := h0) (j := 0) 10 at_37 o_63 rfl
  replace at_41 := va_at.keptP (b := h0) (j := 0) 11 at_41 o_63 rfl
  replace at_45 := va_at.keptP (b := h0) (j := 0) 12 at_45 o_63 rfl
  replace at_49 := va_at.keptP (b := h0) (j := 0) 13 at_49 o_63 rfl
  replace at_53 := va_at.keptP (b := h0) (j := 0) 14 at_53 o_63 rfl
  replace at_57 := va_at.keptP (b := h0) (j := 0) 15 at_57 o_63 rfl
  replace at_61 := va_at.keptP (b := h0) (j := 0) 16 at_61 o_63 rfl
  clear o_63 hz_64
  refine lv_aload_n hx hb dX10_init_133 rfl (lv_at hl 0 rfl) ?_
  refine lv_iconst (v := 2) hx hb dX10_init_134 (by decide) ?_
  refine nw_newI (N := 2) (z := h0 + 17) hx hb (hts (.arrayClass .int) (List.mem_of_getElem? (i := 4) rfl)) hK hS hz (Nat.le_add_right _ _) (by decide) (by decide) (by decide) (Nat.le_of_ble_eq_true rfl) (Nat.le_of_ble_eq_true rfl) dX10_init_135 (fun H at_65 hz o_66 hS => ?_)
  replace at0 := va_at.keptA (b := h0) (z := 17) 0 at0 o_66 (Nat.le_of_ble_eq_true rfl)
  replace at_1 := va_at.keptA (b := h0) (z := 17) 1 at_1 o_66 (Nat.le_of_ble_eq_true rfl)
  replace at_5 := va_at.keptA (b := h0) (z := 17) 2 at_5 o_66 (Nat.le_of_ble_eq_true rfl)
  replace at_9 := va_at.keptA (b := h0) (z := 17) 3 at_9 o_66 (Nat.le_of_ble_eq_true rfl)
  replace at_13 := va_at.keptA (b := h0) (z := 17) 4 at_13 o_66 (Nat.le_of_ble_eq_true rfl)
  replace at_17 := va_at.keptA (b := h0) (z := 17) 5 at_17 o_66 (Nat.le_of_ble_eq_true rfl)
  replace at_21 := va_at.keptA (b := h0) (z := 17) 6 at_21 o_66 (Nat.le_of_ble_eq_true rfl)
  replace at_25 := va_at.keptA (b := h0) (z := 17) 7 at_25 o_66 (Nat.le_of_ble_eq_true rfl)
  replace at_29 := va_at.keptA (b := h0) (z := 17) 8 at_29 o_66 (Nat.le_of_ble_eq_true rfl)
  replace at_33 := va_at.keptA (b := h0) (z := 17) 9 at_33 o_66 (Nat.le_of_ble_eq_true rfl)
  replace at_37 := va_at.keptA (b := h0) (z := 17) 10 at_37 o_66 (Nat.le_of_ble_eq_true rfl)
  replace at_41 := va_at.keptA (b := h0) (z := 17) 11 at_41 o_66 (Nat.le_of_ble_eq_true rfl)
  replace at_45 := va_at.keptA (b := h0) (z := 17) 12 at_45 o_66 (Nat.le_of_ble_eq_true rfl)
  replace at_49 := va_at.keptA (b := h0) (z := 17) 13 at_49 o_66 (Nat.le_of_ble_eq_true rfl)
  replace at_53 := va_at.keptA (b := h0) (z := 17) 14 at_53 o_66 (Nat.le_of_ble_eq_true rfl)
  replace at_57 := va_at.keptA (b := h0) (z := 17) 15 at_57 o_66 (Nat.le_of_ble_eq_true rfl)
  replace at_61 := va_at.keptA (b := h0) (z := 17) 16 at_61 o_66 (Nat.le_of_ble_eq_true rfl)
  clear o_66
  have hz : H.size = h0 + 18 := hz
  refine nw_putF (D := D) (ci := 9) (v := .ref (h0 + 17)) (ty := .array .int) (C := RX10) (T := TX10) (N := 36) hx hb hts in10 tyX10 tyX10_ok nmX10 hown hK hS (Nat.le_refl _) at0 rfl 22 (by decide) (hts (.fieldLink RX10 59 "RiverModelModel" "knobMany" "[I") (List.mem_of_getElem? (i := 22) rfl)) (fun _ h9 => h9) rfl hin rfl (by decide +kernel) rfl rfl (Nat.le_of_ble_eq_true rfl) dX10_init_137 (fun H locs at0 hz_68 o_67 hS => ?_)
  have at0 : va_at D vwCl (h0, .inr (9, [.int 0, .ref (h0 + 1), .int 0, .int 0, .ref (h0 + 2), .ref (h0 + 3), .ref (h0 + 4), .ref (h0 + 5), .int 0, .ref (h0 + 6), .ref (h0 + 7), .ref (h0 + 8), .ref (h0 + 9), .int 0, .ref (h0 + 10), .ref (h0 + 11), .ref (h0 + 12), .int 0, .ref (h0 + 13), .ref (h0 + 14), .ref (h0 + 15), .ref (h0 + 16), .ref (h0 + 17), .null, .null, .null, .null, .int 0, .int 0, .int 0, .int 0, .int 0, .null, .int 0, .int 0, .null])) H := at0
  replace hz : H.size = h0 + 18 := hz_68.trans hz
  replace at_1 := va_at.keptP (b := h0) (j := 0) 1 at_1 o_67 rfl
  replace at_5 := va_at.keptP (b := h0) (j := 0) 2 at_5 o_67 rfl
  replace at_9 := va_at.keptP (b := h0) (j := 0) 3 at_9 o_67 rfl
  replace at_13 := va_at.keptP (b := h0) (j := 0) 4 at_13 o_67 rfl
  replace at_17 := va_at.keptP (b := h0) (j := 0) 5 at_17 o_67 rfl
  replace at_21 := va_at.keptP (b := h0) (j := 0) 6 at_21 o_67 rfl
  replace at_25 := va_at.keptP (b := h0) (j := 0) 7 at_25 o_67 rfl
  replace at_29 := va_at.keptP (b := h0) (j := 0) 8 at_29 o_67 rfl
  replace at_33 := va_at.keptP (b := h0) (j := 0) 9 at_33 o_67 rfl
  replace at_37 := va_at.keptP (b := h0) (j := 0) 10 at_37 o_67 rfl
  replace at_41 := va_at.keptP (b := h0) (j := 0) 11 at_41 o_67 rfl
  replace at_45 := va_at.keptP (b := h0) (j := 0) 12 at_45 o_67 rfl
  replace at_49 := va_at.keptP (b := h0) (j := 0) 13 at_49 o_67 rfl
  replace at_53 := va_at.keptP (b := h0) (j := 0) 14 at_53 o_67 rfl
  replace at_57 := va_at.keptP (b := h0) (j := 0) 15 at_57 o_67 rfl
  replace at_61 := va_at.keptP (b := h0) (j := 0) 16 at_61 o_67 rfl
  replace at_65 := va_at.keptP (b := h0) (j := 0) 17 at_65 o_67 rfl
  clear o_67 hz_68
  refine lv_aload_n hx hb dX10_init_140 rfl (lv_at hl 0 rfl) ?_
  refine lv_pc (pc2 := 141) rfl ?_
  refine lv_iconst (v := 4) hx hb dX10_init_141 (by decide) ?_
  refine nw_newI (N := 4) (z := h0 + 18) hx hb (hts (.arrayClass .int) (List.mem_of_getElem? (i := 4) rfl)) hK hS hz (Nat.le_add_right _ _) (by decide) (by decide) (by decide) (Nat.le_of_ble_eq_true rfl) (Nat.le_of_ble_eq_true rfl) dX10_init_142 (fun H at_69 hz o_70 hS => ?_)
  replace at0 := va_at.keptA (b := h0) (z := 18) 0 at0 o_70 (Nat.le_of_ble_eq_true rfl)
  replace at_1 := va_at.keptA (b := h0) (z := 18) 1 at_1 o_70 (Nat.le_of_ble_eq_true rfl)
  replace at_5 := va_at.keptA (b := h0) (z := 18) 2 at_5 o_70 (Nat.le_of_ble_eq_true rfl)
  replace at_9 := va_at.keptA (b := h0) (z := 18) 3 at_9 o_70 (Nat.le_of_ble_eq_true rfl)
  replace at_13 := va_at.keptA (b := h0) (z := 18) 4 at_13 o_70 (Nat.le_of_ble_eq_true rfl)
  replace at_17 := va_at.keptA (b := h0) (z := 18) 5 at_17 o_70 (Nat.le_of_ble_eq_true rfl)
  replace at_21 := va_at.keptA (b := h0) (z := 18) 6 at_21 o_70 (Nat.le_of_ble_eq_true rfl)
  replace at_25 := va_at.keptA (b := h0) (z := 18) 7 at_25 o_70 (Nat.le_of_ble_eq_true rfl)
  replace at_29 := va_at.keptA (b := h0) (z := 18) 8 at_29 o_70 (Nat.le_of_ble_eq_true rfl)
  replace at_33 := va_at.keptA (b := h0) (z := 18) 9 at_33 o_70 (Nat.le_of_ble_eq_true rfl)
  replace at_37 := va_at.keptA (b := h0) (z := 18) 10 at_37 o_70 (Nat.le_of_ble_eq_true rfl)
  replace at_41 := va_at.keptA (b := h0) (z := 18) 11 at_41 o_70 (Nat.le_of_ble_eq_true rfl)
  replace at_45 := va_at.keptA (b := h0) (z := 18) 12 at_45 o_70 (Nat.le_of_ble_eq_true rfl)
  replace at_49 := va_at.keptA (b := h0) (z := 18) 13 at_49 o_70 (Nat.le_of_ble_eq_true rfl)
  replace at_53 := va_at.keptA (b := h0) (z := 18) 14 at_53 o_70 (Nat.le_of_ble_eq_true rfl)
  replace at_57 := va_at.keptA (b := h0) (z := 18) 15 at_57 o_70 (Nat.le_of_ble_eq_true rfl)
  replace at_61 := va_at.keptA (b := h0) (z := 18) 16 at_61 o_70 (Nat.le_of_ble_eq_true rfl)
  replace at_65 := va_at.keptA (b := h0) (z := 18) 17 at_65 o_70 (Nat.le_of_ble_eq_true rfl)
  clear o_70
  have hz : H.size = h0 + 19 := hz
  refine nw_putF (D := D) (ci := 9) (v := .ref (h0 + 18)) (ty := .array .int) (C := RX10) (T := TX10) (N := 36) hx hb hts in10 tyX10 tyX10_ok nmX10 hown hK hS (Nat.le_refl _) at0 rfl 23 (by decide) (hts (.fieldLink RX10 62 "RiverModelModel" "weight" "[I") (List.mem_of_getElem? (i := 23) rfl)) (fun _ h9 => h9) rfl hin rfl (by decide +kernel) rfl rfl (Nat.le_of_ble_eq_true rfl) dX10_init_144 (fun H locs at0 hz_72 o_71 hS => ?_)
  have at0 : va_at D vwCl (h0, .inr (9, [.int 0, .ref (h0 + 1), .int 0, .int 0, .ref (h0 + 2), .ref (h0 + 3), .ref (h0 + 4), .ref (h0 + 5), .int 0, .ref (h0 + 6), .ref (h0 + 7), .ref (h0 + 8), .ref (h0 + 9), .int 0, .ref (h0 + 10), .ref (h0 + 11), .ref (h0 + 12), .int 0, .ref (h0 + 13), .ref (h0 + 14), .ref (h0 + 15), .ref (h0 + 16), .ref (h0 + 17), .ref (h0 + 18), .null, .null, .null, .int 0, .int 0, .int 0, .int 0, .int 0, .null, .int 0, .int 0, .null])) H := at0
  replace hz : H.size = h0 + 19 := hz_72.trans hz
  replace at_1 := va_at.keptP (b := h0) (j := 0) 1 at_1 o_71 rfl
  replace at_5 := va_at.keptP (b := h0) (j := 0) 2 at_5 o_71 rfl
  replace at_9 := va_at.keptP (b := h0) (j := 0) 3 at_9 o_71 rfl
  replace at_13 := va_at.keptP (b := h0) (j := 0) 4 at_13 o_71 rfl
  replace at_17 := va_at.keptP (b := h0) (j := 0) 5 at_17 o_71 rfl
  replace at_21 := va_at.keptP (b := h0) (j := 0) 6 at_21 o_71 rfl
  replace at_25 := va_at.keptP (b := h0) (j := 0) 7 at_25 o_71 rfl
  replace at_29 := va_at.keptP (b := h0) (j := 0) 8 at_29 o_71 rfl
  replace at_33 := va_at.keptP (b := h0) (j := 0) 9 at_33 o_71 rfl
  replace at_37 := va_at.keptP (b := h0) (j := 0) 10 at_37 o_71 rfl
  replace at_41 := va_at.keptP (b := h0) (j := 0) 11 at_41 o_71 rfl
  replace at_45 := va_at.keptP (b := h0) (j := 0) 12 at_45 o_71 rfl
  replace at_49 := va_at.keptP (b := h0) (j := 0) 13 at_49 o_71 rfl
  replace at_53 := va_at.keptP (b := h0) (j := 0) 14 at_53 o_71 rfl
  replace at_57 := va_at.keptP (b := h0) (j := 0) 15 at_57 o_71 rfl
  replace at_61 := va_at.keptP (b := h0) (j := 0) 16 at_61 o_71 rfl
  replace at_65 := va_at.keptP (b := h0) (j := 0) 17 at_65 o_71 rfl
  replace at_69 := va_at.keptP (b := h0) (j := 0) 18 at_69 o_71 rfl
  clear o_71 hz_72
  refine lv_aload_n hx hb dX10_init_147 rfl (lv_at hl 0 rfl) ?_
  refine lv_bipush (v := 96) hx hb dX10_init_148 (by decide) ?_
  refine nw_newI (N := 96) (z := h0 + 19) hx hb (hts (.arrayClass .int) (List.mem_of_getElem? (i := 4) rfl)) hK hS hz (Nat.le_add_right _ _) (by decide) (by decide) (by decide) (Nat.le_of_ble_eq_true rfl) (Nat.le_of_ble_eq_true rfl) dX10_init_150 (fun H at_73 hz o_74 hS => ?_)
  replace at0 := va_at.keptA (b := h0) (z := 19) 0 at0 o_74 (Nat.le_of_ble_eq_true rfl)
  replace at_1 := va_at.keptA (b := h0) (z := 19) 1 at_1 o_74 (Nat.le_of_ble_eq_true rfl)
  replace at_5 := va_at.keptA (b := h0) (z := 19) 2 at_5 o_74 (Nat.le_of_ble_eq_true rfl)
  replace at_9 := va_at.keptA (b := h0) (z := 19) 3 at_9 o_74 (Nat.le_of_ble_eq_true rfl)
  replace at_13 := va_at.keptA (b := h0) (z := 19) 4 at_13 o_74 (Nat.le_of_ble_eq_true rfl)
  replace at_17 := va_at.keptA (b := h0) (z := 19) 5 at_17 o_74 (Nat.le_of_ble_eq_true rfl)
  replace at_21 := va_at.keptA (b := h0) (z := 19) 6 at_21 o_74 (Nat.le_of_ble_eq_true rfl)
  replace at_25 := va_at.keptA (b := h0) (z := 19) 7 at_25 o_74 (Nat.le_of_ble_eq_true rfl)
  replace at_29 := va_at.keptA (b := h0) (z := 19) 8 at_29 o_74 (Nat.le_of_ble_eq_true rfl)
  replace at_33 := va_at.keptA (b := h0) (z := 19) 9 at_33 o_74 (Nat.le_of_ble_eq_true rfl)
  replace at_37 := va_at.keptA (b := h0) (z := 19) 10 at_37 o_74 (Nat.le_of_ble_eq_true rfl)
  replace at_41 := va_at.keptA (b := h0) (z := 19) 11 at_41 o_74 (Nat.le_of_ble_eq_true rfl)
  replace at_45 := va_at.keptA (b := h0) (z := 19) 12 at_45 o_74 (Nat.le_of_ble_eq_true rfl)
  replace at_49 := va_at.keptA (b := h0) (z := 19) 13 at_49 o_74 (Nat.le_of_ble_eq_true rfl)
  replace at_53 := va_at.keptA (b := h0) (z := 19) 14 at_53 o_74 (Nat.le_of_ble_eq_true rfl)
  replace at_57 := va_at.keptA (b := h0) (z := 19) 15 at_57 o_74 (Nat.le_of_ble_eq_true rfl)
  replace at_61 := va_at.keptA (b := h0) (z := 19) 16 at_61 o_74 (Nat.le_of_ble_eq_true rfl)
  replace at_65 := va_at.keptA (b := h0) (z := 19) 17 at_65 o_74 (Nat.le_of_ble_eq_true rfl)
  replace at_69 := va_at.keptA (b := h0) (z := 19) 18 at_69 o_74 (Nat.le_of_ble_eq_true rfl)
  clear o_74
  have hz : H.size = h0 + 20 := hz
  refine nw_putF (D := D) (ci := 9) (v := .ref (h0 + 19)) (ty := .array .int) (C := RX10) (T := TX10) (N := 36) hx hb hts in10 tyX10 tyX10_ok nmX10 hown hK hS (Nat.le_refl _) at0 rfl 24 (by decide) (hts (.fieldLink RX10 65 "RiverModelModel" "ahead" "[I") (List.mem_of_getElem? (i := 24) rfl)) (fun _ h9 => h9) rfl hin rfl (by decide +kernel) rfl rfl (Nat.le_of_ble_eq_true rfl) dX10_init_152 (fun H locs at0 hz_76 o_75 hS => ?_)
  have at0 : va_at D vwCl (h0, .inr (9, [.int 0, .ref (h0 + 1), .int 0, .int 0, .ref (h0 + 2), .ref (h0 + 3), .ref (h0 + 4), .ref (h0 + 5), .int 0, .ref (h0 + 6), .ref (h0 + 7), .ref (h0 + 8), .ref (h0 + 9), .int 0, .ref (h0 + 10), .ref (h0 + 11), .ref (h0 + 12), .int 0, .ref (h0 + 13), .ref (h0 + 14), .ref (h0 + 15), .ref (h0 + 16), .ref (h0 + 17), .ref (h0 + 18), .ref (h0 + 19), .null, .null, .int 0, .int 0, .int 0, .int 0, .int 0, .null, .int 0, .int 0, .null])) H := at0
  replace hz : H.size = h0 + 20 := hz_76.trans hz
  replace at_1 := va_at.keptP (b := h0) (j := 0) 1 at_1 o_75 rfl
  replace at_5 := va_at.keptP (b := h0) (j := 0) 2 at_5 o_75 rfl
  replace at_9 := va_at.keptP (b := h0) (j := 0) 3 at_9 o_75 rfl
  replace at_13 := va_at.keptP (b := h0) (j := 0) 4 at_13 o_75 rfl
  replace at_17 := va_at.keptP (b := h0) (j := 0) 5 at_17 o_75 rfl
  replace at_21 := va_at.keptP (b := h0) (j := 0) 6 at_21 o_75 rfl
  replace at_25 := va_at.keptP (b := h0) (j := 0) 7 at_25 o_75 rfl
  replace at_29 := va_at.keptP (b := h0) (j := 0) 8 at_29 o_75 rfl
  replace at_33 := va_at.keptP (b := h0) (j := 0) 9 at_33 o_75 rfl
  replace at_37 := va_at.keptP (b := h0) (j := 0) 10 at_37 o_75 rfl
  replace at_41 := va_at.keptP (b := h0) (j := 0) 11 at_41 o_75 rfl
  replace at_45 := va_at.keptP (b := h0) (j := 0) 12 at_45 o_75 rfl
  replace at_49 := va_at.keptP (b := h0) (j := 0) 13 at_49 o_75 rfl
  replace at_53 := va_at.keptP (b := h0) (j := 0) 14 at_53 o_75 rfl
  replace at_57 := va_at.keptP (b := h0) (j := 0) 15 at_57 o_75 rfl
  replace at_61 := va_at.keptP (b := h0) (j := 0) 16 at_61 o_75 rfl
  replace at_65 := va_at.keptP (b := h0) (j := 0) 17 at_65 o_75 rfl
  replace at_69 := va_at.keptP (b := h0) (j := 0) 18 at_69 o_75 rfl
  replace at_73 := va_at.keptP (b := h0) (j := 0) 19 at_73 o_75 rfl
  clear o_75 hz_76
  refine lv_aload_n hx hb dX10_init_155 rfl (lv_at hl 0 rfl) ?_
  refine lv_pc (pc2 := 156) rfl ?_
  refine lv_iconst (v := 4) hx hb dX10_init_156 (by decide) ?_
  refine nw_newI (N := 4) (z := h0 + 20) hx hb (hts (.arrayClass .int) (List.mem_of_getElem? (i := 4) rfl)) hK hS hz (Nat.le_add_right _ _) (by decide) (by decide) (by decide) (Nat.le_of_ble_eq_true rfl) (Nat.le_of_ble_eq_true rfl) dX10_init_157 (fun H at_77 hz o_78 hS => ?_)
  replace at0 := va_at.keptA (b := h0) (z := 20) 0 at0 o_78 (Nat.le_of_ble_eq_true rfl)
  replace at_1 := va_at.keptA (b := h0) (z := 20) 1 at_1 o_78 (Nat.le_of_ble_eq_true rfl)
  replace at_5 := va_at.keptA (b := h0) (z := 20) 2 at_5 o_78 (Nat.le_of_ble_eq_true rfl)
  replace at_9 := va_at.keptA (b := h0) (z := 20) 3 at_9 o_78 (Nat.le_of_ble_eq_true rfl)
  replace at_13 := va_at.keptA (b := h0) (z := 20) 4 at_13 o_78 (Nat.le_of_ble_eq_true rfl)
  replace at_17 := va_at.keptA (b := h0) (z := 20) 5 at_17 o_78 (Nat.le_of_ble_eq_true rfl)
  replace at_21 := va_at.keptA (b := h0) (z := 20) 6 at_21 o_78 (Nat.le_of_ble_eq_true rfl)
  replace at_25 := va_at.keptA (b := h0) (z := 20) 7 at_25 o_78 (Nat.le_of_ble_eq_true rfl)
  replace at_29 := va_at.keptA (b := h0) (z := 20) 8 at_29 o_78 (Nat.le_of_ble_eq_true rfl)
  replace at_33 := va_at.keptA (b := h0) (z := 20) 9 at_33 o_78 (Nat.le_of_ble_eq_true rfl)
  replace at_37 := va_at.keptA (b := h0) (z := 20) 10 at_37 o_78 (Nat.le_of_ble_eq_true rfl)
  replace at_41 := va_at.keptA (b := h0) (z := 20) 11 at_41 o_78 (Nat.le_of_ble_eq_true rfl)
  replace at_45 := va_at.keptA (b := h0) (z := 20) 12 at_45 o_78 (Nat.le_of_ble_eq_true rfl)
  replace at_49 := va_at.keptA (b := h0) (z := 20) 13 at_49 o_78 (Nat.le_of_ble_eq_true rfl)
  replace at_53 := va_at.keptA (b := h0) (z := 20) 14 at_53 o_78 (Nat.le_of_ble_eq_true rfl)
  replace at_57 := va_at.keptA (b := h0) (z := 20) 15 at_57 o_78 (Nat.le_of_ble_eq_true rfl)
  replace at_61 := va_at.keptA (b := h0) (z := 20) 16 at_61 o_78 (Nat.le_of_ble_eq_true rfl)
  replace at_65 := va_at.keptA (b := h0) (z := 20) 17 at_65 o_78 (Nat.le_of_ble_eq_true rfl)
  replace at_69 := va_at.keptA (b := h0) (z := 20) 18 at_69 o_78 (Nat.le_of_ble_eq_true rfl)
  replace at_73 := va_at.keptA (b := h0) (z := 20) 19 at_73 o_78 (Nat.le_of_ble_eq_true rfl)
  clear o_78
  have hz : H.size = h0 + 21 := hz
  refine nw_putF (D := D) (ci := 9) (v := .ref (h0 + 20)) (ty := .array .int) (C := RX10) (T := TX10) (N := 36) hx hb hts in10 tyX10 tyX10_ok nmX10 hown hK hS (Nat.le_refl _) at0 rfl 25 (by decide) (hts (.fieldLink RX10 68 "RiverModelModel" "booked" "[I") (List.mem_of_getElem? (i := 25) rfl)) (fun _ h9 => h9) rfl hin rfl (by decide +kernel) rfl rfl (Nat.le_of_ble_eq_true rfl) dX10_init_159 (fun H locs at0 hz_80 o_79 hS => ?_)
  have at0 : va_at D vwCl (h0, .inr (9, [.int 0, .ref (h0 + 1), .int 0, .int 0, .ref (h0 + 2), .ref (h0 + 3), .ref (h0 + 4), .ref (h0 + 5), .int 0, .ref (h0 + 6), .ref (h0 + 7), .ref (h0 + 8), .ref (h0 + 9), .int 0, .ref (h0 + 10), .ref (h0 + 11), .ref (h0 + 12), .int 0, .ref (h0 + 13), .ref (h0 + 14), .ref (h0 + 15), .ref (h0 + 16), .ref (h0 + 17), .ref (h0 + 18), .ref (h0 + 19), .ref (h0 + 20), .null, .int 0, .int 0, .int 0, .int 0, .int 0, .null, .int 0, .int 0, .null])) H := at0
  replace hz : H.size = h0 + 21 := hz_80.trans hz
  replace at_1 := va_at.keptP (b := h0) (j := 0) 1 at_1 o_79 rfl
  replace at_5 := va_at.keptP (b := h0) (j := 0) 2 at_5 o_79 rfl
  replace at_9 := va_at.keptP (b := h0) (j := 0) 3 at_9 o_79 rfl
  replace at_13 := va_at.keptP (b := h0) (j := 0) 4 at_13 o_79 rfl
  replace at_17 := va_at.keptP (b := h0) (j := 0) 5 at_17 o_79 rfl
  replace at_21 := va_at.keptP (b := h0) (j := 0) 6 at_21 o_79 rfl
  replace at_25 := va_at.keptP (b := h0) (j := 0) 7 at_25 o_79 rfl
  replace at_29 := va_at.keptP (b := h0) (j := 0) 8 at_29 o_79 rfl
  replace at_33 := va_at.keptP (b := h0) (j := 0) 9 at_33 o_79 rfl
  replace at_37 := va_at.keptP (b := h0) (j := 0) 10 at_37 o_79 rfl
  replace at_41 := va_at.keptP (b := h0) (j := 0) 11 at_41 o_79 rfl
  replace at_45 := va_at.keptP (b := h0) (j := 0) 12 at_45 o_79 rfl
  replace at_49 := va_at.keptP (b := h0) (j := 0) 13 at_49 o_79 rfl
  replace at_53 := va_at.keptP (b := h0) (j := 0) 14 at_53 o_79 rfl
  replace at_57 := va_at.keptP (b := h0) (j := 0) 15 at_57 o_79 rfl
  replace at_61 := va_at.keptP (b := h0) (j := 0) 16 at_61 o_79 rfl
  replace at_65 := va_at.keptP (b := h0) (j := 0) 17 at_65 o_79 rfl
  replace at_69 := va_at.keptP (b := h0) (j := 0) 18 at_69 o_79 rfl
  replace at_73 := va_at.keptP (b := h0) (j := 0) 19 at_73 o_79 rfl
  replace at_77 := va_at.keptP (b := h0) (j := 0) 20 at_77 o_79 rfl
  clear o_79 hz_80
  refine lv_aload_n hx hb dX10_init_162 rfl (lv_at hl 0 rfl) ?_
  refine lv_bipush (v := 16) hx hb dX10_init_163 (by decide) ?_
  refine nw_newI (N := 16) (z := h0 + 21) hx hb (hts (.arrayClass .int) (List.mem_of_getElem? (i := 4) rfl)) hK hS hz (Nat.le_add_right _ _) (by decide) (by decide) (by decide) (Nat.le_of_ble_eq_true rfl) (Nat.le_of_ble_eq_true rfl) dX10_init_165 (fun H at_81 hz o_82 hS => ?_)
  replace at0 := va_at.keptA (b := h0) (z := 21) 0 at0 o_82 (Nat.le_of_ble_eq_true rfl)
  replace at_1 := va_at.keptA (b := h0) (z := 21) 1 at_1 o_82 (Nat.le_of_ble_eq_true rfl)
  replace at_5 := va_at.keptA (b := h0) (z := 21) 2 at_5 o_82 (Nat.le_of_ble_eq_true rfl)
  replace at_9 := va_at.keptA (b := h0) (z := 21) 3 at_9 o_82 (Nat.le_of_ble_eq_true rfl)
  replace at_13 := va_at.keptA (b := h0) (z := 21) 4 at_13 o_82 (Nat.le_of_ble_eq_true rfl)
  replace at_17 := va_at.keptA (b := h0) (z := 21) 5 at_17 o_82 (Nat.le_of_ble_eq_true rfl)
  replace at_21 := va_at.keptA (b := h0) (z := 21) 6 at_21 o_82 (Nat.le_of_ble_eq_true rfl)
  replace at_25 := va_at.keptA (b := h0) (z := 21) 7 at_25 o_82 (Nat.le_of_ble_eq_true rfl)
  replace at_29 := va_at.keptA (b := h0) (z := 21) 8 at_29 o_82 (Nat.le_of_ble_eq_true rfl)
  replace at_33 := va_at.keptA (b := h0) (z := 21) 9 at_33 o_82 (Nat.le_of_ble_eq_true rfl)
  replace at_37 := va_at.keptA (b := h0) (z := 21) 10 at_37 o_82 (Nat.le_of_ble_eq_true rfl)
  replace at_41 := va_at.keptA (b := h0) (z := 21) 11 at_41 o_82 (Nat.le_of_ble_eq_true rfl)
  replace at_45 := va_at.keptA (b := h0) (z := 21) 12 at_45 o_82 (Nat.le_of_ble_eq_true rfl)
  replace at_49 := va_at.keptA (b := h0) (z := 21) 13 at_49 o_82 (Nat.le_of_ble_eq_true rfl)
  replace at_53 := va_at.keptA (b := h0) (z := 21) 14 at_53 o_82 (Nat.le_of_ble_eq_true rfl)
  replace at_57 := va_at.keptA (b := h0) (z := 21) 15 at_57 o_82 (Nat.le_of_ble_eq_true rfl)
  replace at_61 := va_at.keptA (b := h0) (z := 21) 16 at_61 o_82 (Nat.le_of_ble_eq_true rfl)
  replace at_65 := va_at.keptA (b := h0) (z := 21) 17 at_65 o_82 (Nat.le_of_ble_eq_true rfl)
  replace at_69 := va_at.keptA (b := h0) (z := 21) 18 at_69 o_82 (Nat.le_of_ble_eq_true rfl)
  replace at_73 := va_at.keptA (b := h0) (z := 21) 19 at_73 o_82 (Nat.le_of_ble_eq_true rfl)
  replace at_77 := va_at.keptA (b := h0) (z := 21) 20 at_77 o_82 (Nat.le_of_ble_eq_true rfl)
  clear o_82
  have hz : H.size = h0 + 22 := hz
  refine nw_putF (D := D) (ci := 9) (v := .ref (h0 + 21)) (ty := .array .int) (C := RX10) (T := TX10) (N := 36) hx hb hts in10 tyX10 tyX10_ok nmX10 hown hK hS (Nat.le_refl _) at0 rfl 26 (by decide) (hts (.fieldLink RX10 71 "RiverModelModel" "startB" "[I") (List.mem_of_getElem? (i := 26) rfl)) (fun _ h9 => h9) rfl hin rfl (by decide +kernel) rfl rfl (Nat.le_of_ble_eq_true rfl) dX10_init_167 (fun H locs at0 hz_84 o_83 hS => ?_)
  have at0 : va_at D vwCl (h0, .inr (9, [.int 0, .ref (h0 + 1), .int 0, .int 0, .ref (h0 + 2), .ref (h0 + 3), .ref (h0 + 4), .ref (h0 + 5), .int 0, .ref (h0 + 6), .ref (h0 + 7), .ref (h0 + 8), .ref (h0 + 9), .int 0, .ref (h0 + 10), .ref (h0 + 11), .ref (h0 + 12), .int 0, .ref (h0 + 13), .ref (h0 + 14), .ref (h0 + 15), .ref (h0 + 16), .ref (h0 + 17), .ref (h0 + 18), .ref (h0 + 19), .ref (h0 + 20), .ref (h0 + 21), .int 0, .int 0, .int 0, .int 0, .int 0, .null, .int 0, .int 0, .null])) H := at0
  replace hz : H.size = h0 + 22 := hz_84.trans hz
  replace at_1 := va_at.keptP (b := h0) (j := 0) 1 at_1 o_83 rfl
  replace at_5 := va_at.keptP (b := h0) (j := 0) 2 at_5 o_83 rfl
  replace at_9 := va_at.keptP (b := h0) (j := 0) 3 at_9 o_83 rfl
  replace at_13 := va_at.keptP (b := h0) (j := 0) 4 at_13 o_83 rfl
  replace at_17 := va_at.keptP (b := h0) (j := 0) 5 at_17 o_83 rfl
  replace at_21 := va_at.keptP (b := h0) (j := 0) 6 at_21 o_83 rfl
  replace at_25 := va_at.keptP (b := h0) (j := 0) 7 at_25 o_83 rfl
  replace at_29 := va_at.keptP (b := h0) (j := 0) 8 at_29 o_83 rfl
  replace at_33 := va_at.keptP (b := h0) (j := 0) 9 at_33 o_83 rfl
  replace at_37 := va_at.keptP (b := h0) (j := 0) 10 at_37 o_83 rfl
  replace at_41 := va_at.keptP (b := h0) (j := 0) 11 at_41 o_83 rfl
  replace at_45 := va_at.keptP (b := h0) (j := 0) 12 at_45 o_83 rfl
  replace at_49 := va_at.keptP (b := h0) (j := 0) 13 at_49 o_83 rfl
  replace at_53 := va_at.keptP (b := h0) (j := 0) 14 at_53 o_83 rfl
  replace at_57 := va_at.keptP (b := h0) (j := 0) 15 at_57 o_83 rfl
  replace at_61 := va_at.keptP (b := h0) (j := 0) 16 at_61 o_83 rfl
  replace at_65 := va_at.keptP (b := h0) (j := 0) 17 at_65 o_83 rfl
  replace at_69 := va_at.keptP (b := h0) (j := 0) 18 at_69 o_83 rfl
  replace at_73 := va_at.keptP (b := h0) (j := 0) 19 at_73 o_83 rfl
  replace at_77 := va_at.keptP (b := h0) (j := 0) 20 at_77 o_83 rfl
  replace at_81 := va_at.keptP (b := h0) (j := 0) 21 at_81 o_83 rfl
  clear o_83 hz_84
  refine lv_aload_n hx hb dX10_init_170 rfl (lv_at hl 0 rfl) ?_
  refine lv_pc (pc2 := 171) rfl ?_
  refine lv_iconst (v := 3) hx hb dX10_init_171 (by decide) ?_
  refine nw_newI (N := 3) (z := h0 + 22) hx hb (hts (.arrayClass .int) (List.mem_of_getElem? (i := 4) rfl)) hK hS hz (Nat.le_add_right _ _) (by decide) (by decide) (by decide) (Nat.le_of_ble_eq_true rfl) (Nat.le_of_ble_eq_true rfl) dX10_init_172 (fun H at_85 hz o_86 hS => ?_)
  replace at0 := va_at.keptA (b := h0) (z := 22) 0 at0 o_86 (Nat.le_of_ble_eq_true rfl)
  replace at_1 := va_at.keptA (b := h0) (z := 22) 1 at_1 o_86 (Nat.le_of_ble_eq_true rfl)
  replace at_5 := va_at.keptA (b := h0) (z := 22) 2 at_5 o_86 (Nat.le_of_ble_eq_true rfl)
  replace at_9 := va_at.keptA (b := h0) (z := 22) 3 at_9 o_86 (Nat.le_of_ble_eq_true rfl)
  replace at_13 := va_at.keptA (b := h0) (z := 22) 4 at_13 o_86 (Nat.le_of_ble_eq_true rfl)
  replace at_17 := va_at.keptA (b := h0) (z := 22) 5 at_17 o_86 (Nat.le_of_ble_eq_true rfl)
  replace at_21 := va_at.keptA (b := h0) (z := 22) 6 at_21 o_86 (Nat.le_of_ble_eq_true rfl)
  replace at_25 := va_at.keptA (b := h0) (z := 22) 7 at_25 o_86 (Nat.le_of_ble_eq_true rfl)
  replace at_29 := va_at.keptA (b := h0) (z := 22) 8 at_29 o_86 (Nat.le_of_ble_eq_true rfl)
  replace at_33 := va_at.keptA (b := h0) (z := 22) 9 at_33 o_86 (Nat.le_of_ble_eq_true rfl)
  replace at_37 := va_at.keptA (b := h0) (z := 22) 10 at_37 o_86 (Nat.le_of_ble_eq_true rfl)
  replace at_41 := va_at.keptA (b := h0) (z := 22) 11 at_41 o_86 (Nat.le_of_ble_eq_true rfl)
  replace at_45 := va_at.keptA (b := h0) (z := 22) 12 at_45 o_86 (Nat.le_of_ble_eq_true rfl)
  replace at_49 := va_at.keptA (b := h0) (z := 22) 13 at_49 o_86 (Nat.le_of_ble_eq_true rfl)
  replace at_53 := va_at.keptA (b := h0) (z := 22) 14 at_53 o_86 (Nat.le_of_ble_eq_true rfl)
  replace at_57 := va_at.keptA (b := h0) (z := 22) 15 at_57 o_86 (Nat.le_of_ble_eq_true rfl)
  replace at_61 := va_at.keptA (b := h0) (z := 22) 16 at_61 o_86 (Nat.le_of_ble_eq_true rfl)
  replace at_65 := va_at.keptA (b := h0) (z := 22) 17 at_65 o_86 (Nat.le_of_ble_eq_true rfl)
  replace at_69 := va_at.keptA (b := h0) (z := 22) 18 at_69 o_86 (Nat.le_of_ble_eq_true rfl)
  replace at_73 := va_at.keptA (b := h0) (z := 22) 19 at_73 o_86 (Nat.le_of_ble_eq_true rfl)
  replace at_77 := va_at.keptA (b := h0) (z := 22) 20 at_77 o_86 (Nat.le_of_ble_eq_true rfl)
  replace at_81 := va_at.keptA (b := h0) (z := 22) 21 at_81 o_86 (Nat.le_of_ble_eq_true rfl)
  clear o_86
  have hz : H.size = h0 + 23 := hz
  refine nw_putF (D := D) (ci := 9) (v := .ref (h0 + 22)) (ty := .array .int) (C := RX10) (T := TX10) (N := 36) hx hb hts in10 tyX10 tyX10_ok nmX10 hown hK hS (Nat.le_refl _) at0 rfl 32 (by decide) (hts (.fieldLink RX10 74 "RiverModelModel" "readNumber" "[I") (List.mem_of_getElem? (i := 27) rfl)) (fun _ h9 => h9) rfl hin rfl (by decide +kernel) rfl rfl (Nat.le_of_ble_eq_true rfl) dX10_init_174 (fun H locs at0 hz_88 o_87 hS => ?_)
  have at0 : va_at D vwCl (h0, .inr (9, [.int 0, .ref (h0 + 1), .int 0, .int 0, .ref (h0 + 2), .ref (h0 + 3), .ref (h0 + 4), .ref (h0 + 5), .int 0, .ref (h0 + 6), .ref (h0 + 7), .ref (h0 + 8), .ref (h0 + 9), .int 0, .ref (h0 + 10), .ref (h0 + 11), .ref (h0 + 12), .int 0, .ref (h0 + 13), .ref (h0 + 14), .ref (h0 + 15), .ref (h0 + 16), .ref (h0 + 17), .ref (h0 + 18), .ref (h0 + 19), .ref (h0 + 20), .ref (h0 + 21), .int 0, .int 0, .int 0, .int 0, .int 0, .ref (h0 + 22), .int 0, .int 0, .null])) H := at0
  replace hz : H.size = h0 + 23 := hz_88.trans hz
  replace at_1 := va_at.keptP (b := h0) (j := 0) 1 at_1 o_87 rfl
  replace at_5 := va_at.keptP (b := h0) (j := 0) 2 at_5 o_87 rfl
  replace at_9 := va_at.keptP (b := h0) (j := 0) 3 at_9 o_87 rfl
  replace at_13 := va_at.keptP (b := h0) (j := 0) 4 at_13 o_87 rfl
  replace at_17 := va_at.keptP (b := h0) (j := 0) 5 at_17 o_87 rfl
  replace at_21 := va_at.keptP (b := h0) (j := 0) 6 at_21 o_87 rfl
  replace at_25 := va_at.keptP (b := h0) (j := 0) 7 at_25 o_87 rfl
  replace at_29 := va_at.keptP (b := h0) (j := 0) 8 at_29 o_87 rfl
  replace at_33 := va_at.keptP (b := h0) (j := 0) 9 at_33 o_87 rfl
  replace at_37 := va_at.keptP (b := h0) (j := 0) 10 at_37 o_87 rfl
  replace at_41 := va_at.keptP (b := h0) (j := 0) 11 at_41 o_87 rfl
  replace at_45 := va_at.keptP (b := h0) (j := 0) 12 at_45 o_87 rfl
  replace at_49 := va_at.keptP (b := h0) (j := 0) 13 at_49 o_87 rfl
  replace at_53 := va_at.keptP (b := h0) (j := 0) 14 at_53 o_87 rfl
  replace at_57 := va_at.keptP (b := h0) (j := 0) 15 at_57 o_87 rfl
  replace at_61 := va_at.keptP (b := h0) (j := 0) 16 at_61 o_87 rfl
  replace at_65 := va_at.keptP (b := h0) (j := 0) 17 at_65 o_87 rfl
  replace at_69 := va_at.keptP (b := h0) (j := 0) 18 at_69 o_87 rfl
  replace at_73 := va_at.keptP (b := h0) (j := 0) 19 at_73 o_87 rfl
  replace at_77 := va_at.keptP (b := h0) (j := 0) 20 at_77 o_87 rfl
  replace at_81 := va_at.keptP (b := h0) (j := 0) 21 at_81 o_87 rfl
  replace at_85 := va_at.keptP (b := h0) (j := 0) 22 at_85 o_87 rfl
  clear o_87 hz_88
  refine lv_aload_n hx hb dX10_init_177 rfl (lv_at hl 0 rfl) ?_
  refine lv_bipush (v := 96) hx hb dX10_init_178 (by decide) ?_
  refine nw_newL (N := 96) (z := h0 + 23) hx hb (hts (.arrayClass .long) (List.mem_of_getElem? (i := 11) rfl)) hK hS hz (Nat.le_add_right _ _) (by decide) (by decide) (by decide) (Nat.le_of_ble_eq_true rfl) (Nat.le_of_ble_eq_true rfl) dX10_init_180 (fun H at_89 hz o_90 hS => ?_)
  replace at0 := va_at.keptA (b := h0) (z := 23) 0 at0 o_90 (Nat.le_of_ble_eq_true rfl)
  replace at_1 := va_at.keptA (b := h0) (z := 23) 1 at_1 o_90 (Nat.le_of_ble_eq_true rfl)
  replace at_5 := va_at.keptA (b := h0) (z := 23) 2 at_5 o_90 (Nat.le_of_ble_eq_true rfl)
  replace at_9 := va_at.keptA (b := h0) (z := 23) 3 at_9 o_90 (Nat.le_of_ble_eq_true rfl)
  replace at_13 := va_at.keptA (b := h0) (z := 23) 4 at_13 o_90 (Nat.le_of_ble_eq_true rfl)
  replace at_17 := va_at.keptA (b := h0) (z := 23) 5 at_17 o_90 (Nat.le_of_ble_eq_true rfl)
  replace at_21 := va_at.keptA (b := h0) (z := 23) 6 at_21 o_90 (Nat.le_of_ble_eq_true rfl)
  replace at_25 := va_at.keptA (b := h0) (z := 23) 7 at_25 o_90 (Nat.le_of_ble_eq_true rfl)
  replace at_29 := va_at.keptA (b := h0) (z := 23) 8 at_29 o_90 (Nat.le_of_ble_eq_true rfl)
  replace at_33 := va_at.keptA (b := h0) (z := 23) 9 at_33 o_90 (Nat.le_of_ble_eq_true rfl)
  replace at_37 := va_at.keptA (b := h0) (z := 23) 10 at_37 o_90 (Nat.le_of_ble_eq_true rfl)
  replace at_41 := va_at.keptA (b := h0) (z := 23) 11 at_41 o_90 (Nat.le_of_ble_eq_true rfl)
  replace at_45 := va_at.keptA (b := h0) (z := 23) 12 at_45 o_90 (Nat.le_of_ble_eq_true rfl)
  replace at_49 := va_at.keptA (b := h0) (z := 23) 13 at_49 o_90 (Nat.le_of_ble_eq_true rfl)
  replace at_53 := va_at.keptA (b := h0) (z := 23) 14 at_53 o_90 (Nat.le_of_ble_eq_true rfl)
  replace at_57 := va_at.keptA (b := h0) (z := 23) 15 at_57 o_90 (Nat.le_of_ble_eq_true rfl)
  replace at_61 := va_at.keptA (b := h0) (z := 23) 16 at_61 o_90 (Nat.le_of_ble_eq_true rfl)
  replace at_65 := va_at.keptA (b := h0) (z := 23) 17 at_65 o_90 (Nat.le_of_ble_eq_true rfl)
  replace at_69 := va_at.keptA (b := h0) (z := 23) 18 at_69 o_90 (Nat.le_of_ble_eq_true rfl)
  replace at_73 := va_at.keptA (b := h0) (z := 23) 19 at_73 o_90 (Nat.le_of_ble_eq_true rfl)
  replace at_77 := va_at.keptA (b := h0) (z := 23) 20 at_77 o_90 (Nat.le_of_ble_eq_true rfl)
  replace at_81 := va_at.keptA (b := h0) (z := 23) 21 at_81 o_90 (Nat.le_of_ble_eq_true rfl)
  replace at_85 := va_at.keptA (b := h0) (z := 23) 22 at_85 o_90 (Nat.le_of_ble_eq_true rfl)
  clear o_90
  have hz : H.size = h0 + 24 := hz
  refine nw_putF (D := D) (ci := 9) (v := .ref (h0 + 23)) (ty := .array .long) (C := RX10) (T := TX10) (N := 36) hx hb hts in10 tyX10 tyX10_ok nmX10 hown hK hS (Nat.le_refl _) at0 rfl 35 (by decide) (hts (.fieldLink RX10 77 "RiverModelModel" "own" "[J") (List.mem_of_getElem? (i := 28) rfl)) (fun _ h9 => h9) rfl hin rfl (by decide +kernel) rfl rfl (Nat.le_of_ble_eq_true rfl) dX10_init_182 (fun H locs at0 hz_92 o_91 hS => ?_)
  have at0 : va_at D vwCl (h0, .inr (9, [.int 0, .ref (h0 + 1), .int 0, .int 0, .ref (h0 + 2), .ref (h0 + 3), .ref (h0 + 4), .ref (h0 + 5), .int 0, .ref (h0 + 6), .ref (h0 + 7), .ref (h0 + 8), .ref (h0 + 9), .int 0, .ref (h0 + 10), .ref (h0 + 11), .ref (h0 + 12), .int 0, .ref (h0 + 13), .ref (h0 + 14), .ref (h0 + 15), .ref (h0 + 16), .ref (h0 + 17), .ref (h0 + 18), .ref (h0 + 19), .ref (h0 + 20), .ref (h0 + 21), .int 0, .int 0, .int 0, .int 0, .int 0, .ref (h0 + 22), .int 0, .int 0, .ref (h0 + 23)])) H := at0
  replace hz : H.size = h0 + 24 := hz_92.trans hz
  replace at_1 := va_at.keptP (b := h0) (j := 0) 1 at_1 o_91 rfl
  replace at_5 := va_at.keptP (b := h0) (j := 0) 2 at_5 o_91 rfl
  replace at_9 := va_at.keptP (b := h0) (j := 0) 3 at_9 o_91 rfl
  replace at_13 := va_at.keptP (b := h0) (j := 0) 4 at_13 o_91 rfl
  replace at_17 := va_at.keptP (b := h0) (j := 0) 5 at_17 o_91 rfl
  replace at_21 := va_at.keptP (b := h0) (j := 0) 6 at_21 o_91 rfl
  replace at_25 := va_at.keptP (b := h0) (j := 0) 7 at_25 o_91 rfl
  replace at_29 := va_at.keptP (b := h0) (j := 0) 8 at_29 o_91 rfl
  replace at_33 := va_at.keptP (b := h0) (j := 0) 9 at_33 o_91 rfl
  replace at_37 := va_at.keptP (b := h0) (j := 0) 10 at_37 o_91 rfl
  replace at_41 := va_at.keptP (b := h0) (j := 0) 11 at_41 o_91 rfl
  replace at_45 := va_at.keptP (b := h0) (j := 0) 12 at_45 o_91 rfl
  replace at_49 := va_at.keptP (b := h0) (j := 0) 13 at_49 o_91 rfl
  replace at_53 := va_at.keptP (b := h0) (j := 0) 14 at_53 o_91 rfl
  replace at_57 := va_at.keptP (b := h0) (j := 0) 15 at_57 o_91 rfl
  replace at_61 := va_at.keptP (b := h0) (j := 0) 16 at_61 o_91 rfl
  replace at_65 := va_at.keptP (b := h0) (j := 0) 17 at_65 o_91 rfl
  replace at_69 := va_at.keptP (b := h0) (j := 0) 18 at_69 o_91 rfl
  replace at_73 := va_at.keptP (b := h0) (j := 0) 19 at_73 o_91 rfl
  replace at_77 := va_at.keptP (b := h0) (j := 0) 20 at_77 o_91 rfl
  replace at_81 := va_at.keptP (b := h0) (j := 0) 21 at_81 o_91 rfl
  replace at_85 := va_at.keptP (b := h0) (j := 0) 22 at_85 o_91 rfl
  replace at_89 := va_at.keptP (b := h0) (j := 0) 23 at_89 o_91 rfl
  clear o_91 hz_92
  refine lv_iconst (v := 0) hx hb dX10_init_185 (by decide) ?_
  refine lv_pc (pc2 := 186) rfl ?_
  refine lv_istore_n (lv' := [(1, .int 0), (0, .ref h0)]) hx hb dX10_init_186 rfl hl (by decide) rfl (fun ls hl => ?_)
  refine lv_pc (pc2 := 187) rfl ?_
  refine lp_gen (fun WW hWW => ?_)
  have kx : ∀ (f : Nat → Int32) (H1 : Heap) (locs1 : List Loc) (ls1 : Array Slot), va_at D vwCl (h0 + 6, .inl (cI, 384, .inl f)) H1 → H1.size = H.size → (∀ q : Nat, q ≠ h0 + 6 → H1[q]? = H[q]?) → cF h0 s.heap H1 locs1 → lv_has ls1 2 [(0, .ref h0)] → WW H1 locs1 (F0 m 212 ls1 []) := by
    intro fw H locs ls at_21 hz9 o9 hS hl
    refine (hWW _ _ _).mpr ?_
    replace hz : H.size = h0 + 24 := hz9.trans hz
    replace at0 := va_at.keptP (b := h0) (j := 6) 0 at0 o9 rfl
    replace at_1 := va_at.keptP (b := h0) (j := 6) 1 at_1 o9 rfl
    replace at_5 := va_at.keptP (b := h0) (j := 6) 2 at_5 o9 rfl
    replace at_9 := va_at.keptP (b := h0) (j := 6) 3 at_9 o9 rfl
    replace at_13 := va_at.keptP (b := h0) (j := 6) 4 at_13 o9 rfl
    replace at_17 := va_at.keptP (b := h0) (j := 6) 5 at_17 o9 rfl
    replace at_25 := va_at.keptP (b := h0) (j := 6) 7 at_25 o9 rfl
    replace at_29 := va_at.keptP (b := h0) (j := 6) 8 at_29 o9 rfl
    replace at_33 := va_at.keptP (b := h0) (j := 6) 9 at_33 o9 rfl
    replace at_37 := va_at.keptP (b := h0) (j := 6) 10 at_37 o9 rfl
    replace at_41 := va_at.keptP (b := h0) (j := 6) 11 at_41 o9 rfl
    replace at_45 := va_at.keptP (b := h0) (j := 6) 12 at_45 o9 rfl
    replace at_49 := va_at.keptP (b := h0) (j := 6) 13 at_49 o9 rfl
    replace at_53 := va_at.keptP (b := h0) (j := 6) 14 at_53 o9 rfl
    replace at_57 := va_at.keptP (b := h0) (j := 6) 15 at_57 o9 rfl
    replace at_61 := va_at.keptP (b := h0) (j := 6) 16 at_61 o9 rfl
    replace at_65 := va_at.keptP (b := h0) (j := 6) 17 at_65 o9 rfl
    replace at_69 := va_at.keptP (b := h0) (j := 6) 18 at_69 o9 rfl
    replace at_73 := va_at.keptP (b := h0) (j := 6) 19 at_73 o9 rfl
    replace at_77 := va_at.keptP (b := h0) (j := 6) 20 at_77 o9 rfl
    replace at_81 := va_at.keptP (b := h0) (j := 6) 21 at_81 o9 rfl
    replace at_85 := va_at.keptP (b := h0) (j := 6) 22 at_85 o9 rfl
    replace at_89 := va_at.keptP (b := h0) (j := 6) 23 at_89 o9 rfl
    refine lv_aload_n hx hb dX10_init_212 rfl (lv_at hl 0 rfl) ?_
    refine fg_call (W.runV (As := []) (rest := []) ⟨hx, hb, hml, hown, hts⟩ (c_forgets0 l D cI cL cC h0 (h0 + 10) (h0 + 12) (h0 + 17) _ _ _ _ rfl rfl rfl ⟨by omega, by omega, by omega⟩ ⟨by omega, by omega, by omega⟩) (cwV 0 hts gX10_init_X10_forgets rfl rfl rfl (by decide +kernel) ⟨Nat.le_of_ble_eq_true rfl, Nat.le_of_ble_eq_true rfl⟩) (fg_pre at0 at_37 at_45 at_65 hE) rfl rfl hl.1 rfl (lv_room (Nat.le_of_ble_eq_true rfl)) dX10_init_213 ⟨Nat.le_of_ble_eq_true rfl, Nat.le_of_ble_eq_true rfl⟩) hS ⟨Nat.le_add_right _ _, Nat.le_add_right _ _, Nat.le_add_right _ _⟩ (fun H locs g1 g2 g3 at_37 at_45 at_65 hg1 hg2 hg3 hz9 o9 hS => ?_)
    replace hz : H.size = h0 + 24 := hz9.trans hz
    replace at0 := va_at.kept3 (b := h0) (j1 := 10) (j2 := 12) (j3 := 17) 0 at0 o9 rfl
    replace at_1 := va_at.kept3 (b := h0) (j1 := 10) (j2 := 12) (j3 := 17) 1 at_1 o9 rfl
    replace at_5 := va_at.kept3 (b := h0) (j1 := 10) (j2 := 12) (j3 := 17) 2 at_5 o9 rfl
    replace at_9 := va_at.kept3 (b := h0) (j1 := 10) (j2 := 12) (j3 := 17) 3 at_9 o9 rfl
    replace at_13 := va_at.kept3 (b := h0) (j1 := 10) (j2 := 12) (j3 := 17) 4 at_13 o9 rfl
    replace at_17 := va_at.kept3 (b := h0) (j1 := 10) (j2 := 12) (j3 := 17) 5 at_17 o9 rfl
    replace at_21 := va_at.kept3 (b := h0) (j1 := 10) (j2 := 12) (j3 := 17) 6 at_21 o9 rfl
    replace at_25 := va_at.kept3 (b := h0) (j1 := 10) (j2 := 12) (j3 := 17) 7 at_25 o9 rfl
    replace at_29 := va_at.kept3 (b := h0) (j1 := 10) (j2 := 12) (j3 := 17) 8 at_29 o9 rfl
    replace at_33 := va_at.kept3 (b := h0) (j1 := 10) (j2 := 12) (j3 := 17) 9 at_33 o9 rfl
    replace at_41 := va_at.kept3 (b := h0) (j1 := 10) (j2 := 12) (j3 := 17) 11 at_41 o9 rfl
    replace at_49 := va_at.kept3 (b := h0) (j1 := 10) (j2 := 12) (j3 := 17) 13 at_49 o9 rfl
    replace at_53 := va_at.kept3 (b := h0) (j1 := 10) (j2 := 12) (j3 := 17) 14 at_53 o9 rfl
    replace at_57 := va_at.kept3 (b := h0) (j1 := 10) (j2 := 12) (j3 := 17) 15 at_57 o9 rfl
    replace at_61 := va_at.kept3 (b := h0) (j1 := 10) (j2 := 12) (j3 := 17) 16 at_61 o9 rfl
    replace at_69 := va_at.kept3 (b := h0) (j1 := 10) (j2 := 12) (j3 := 17) 18 at_69 o9 rfl
    replace at_73 := va_at.kept3 (b := h0) (j1 := 10) (j2 := 12) (j3 := 17) 19 at_73 o9 rfl
    replace at_77 := va_at.kept3 (b := h0) (j1 := 10) (j2 := 12) (j3 := 17) 20 at_77 o9 rfl
    replace at_81 := va_at.kept3 (b := h0) (j1 := 10) (j2 := 12) (j3 := 17) 21 at_81 o9 rfl
    replace at_85 := va_at.kept3 (b := h0) (j1 := 10) (j2 := 12) (j3 := 17) 22 at_85 o9 rfl
    replace at_89 := va_at.kept3 (b := h0) (j1 := 10) (j2 := 12) (j3 := 17) 23 at_89 o9 rfl
    have sg_93 : tS D (fF cI cL cC gC 0) [41] (h0 + 1) H := tS.one at_1 (fun t => ⟨_, rfl⟩)
    have sg_94 : tS D (fF cI cL cC gC 0) [42] (h0 + 2) H := tS.one at_5 (fun t => ⟨_, rfl⟩)
    have sg_95 : tS D (fF cI cL cC gC 0) [43] (h0 + 3) H := tS.one at_9 (fun t => ⟨_, rfl⟩)
    have sg_96 : tS D (fF cI cL cC gC 0) [44] (h0 + 4) H := tS.one at_13 (fun t => ⟨_, rfl⟩)
    have sg_97 : tS D (fF cI cL cC gC 0) [45] (h0 + 5) H := tS.one at_17 (fun t => ⟨_, rfl⟩)
    have sg_98 : tS D (fF cI cL cC gC 0) [46] (h0 + 6) H := tS.one at_21 (fun t => ⟨_, rfl⟩)
    have sg_99 : tS D (fF cI cL cC gC 0) [47] (h0 + 7) H := tS.one at_25 (fun t => ⟨_, rfl, fun _ _ => rfl⟩)
    have sg_100 : tS D (fF cI cL cC gC 0) [48] (h0 + 8) H := tS.one at_29 (fun t => ⟨_, rfl⟩)
    have sg_101 : tS D (fF cI cL cC gC 0) [49] (h0 + 9) H := tS.one at_33 (fun t => ⟨_, rfl⟩)
    have sg_102 : tS D (fF cI cL cC gC 0) [50] (h0 + 10) H := tS.one at_37 (fun t => ⟨_, rfl, hg1⟩)
    have sg_103 : tS D (fF cI cL cC gC 0) [51] (h0 + 11) H := tS.one at_41 (fun t => ⟨_, rfl⟩)
    have sg_104 : tS D (fF cI cL cC gC 0) [52] (h0 + 12) H := tS.one at_45 (fun t => ⟨_, rfl, hg2⟩)
    have sg_105 : tS D (fF cI cL cC gC 0) [53] (h0 + 13) H := tS.one at_49 (fun t => ⟨_, rfl⟩)
    have sg_106 : tS D (fF cI cL cC gC 0) [54] (h0 + 14) H := tS.one at_53 (fun t => ⟨_, rfl⟩)
    have sg_107 : tS D (fF cI cL cC gC 0) [55] (h0 + 15) H := tS.one at_57 (fun t => ⟨_, rfl⟩)
    have sg_108 : tS D (fF cI cL cC gC 0) [56] (h0 + 16) H := tS.one at_61 (fun t => ⟨_, rfl⟩)
    have sg_109 : tS D (fF cI cL cC gC 0) [57] (h0 + 17) H := tS.one at_65 (fun t => ⟨_, rfl, hg3⟩)
    have sg_110 : tS D (fF cI cL cC gC 0) [58] (h0 + 18) H := tS.one at_69 (fun t => ⟨_, rfl, fun _ _ => rfl⟩)
    have sg_111 : tS D (fF cI cL cC gC 0) [59] (h0 + 19) H := tS.one at_73 (fun t => ⟨_, rfl, fun _ _ => rfl⟩)
    have sg_112 : tS D (fF cI cL cC gC 0) [60] (h0 + 20) H := tS.one at_77 (fun t => ⟨_, rfl, fun _ _ => rfl⟩)
    have sg_113 : tS D (fF cI cL cC gC 0) [61] (h0 + 21) H := tS.one at_81 (fun t => ⟨_, rfl⟩)
    have sg_114 : tS D (fF cI cL cC gC 0) [62] (h0 + 22) H := tS.one at_85 (fun t => ⟨_, rfl⟩)
    have sg_115 : tS D (fF cI cL cC gC 0) [63] (h0 + 23) H := tS.one at_89 (fun t => ⟨_, rfl⟩)
    have sj_116 : tS D (fF cI cL cC gC 0) [62, 63] (h0 + 22) H := tS.app3 1 sg_114 sg_115 rfl rfl
    have sj_117 : tS D (fF cI cL cC gC 0) [61, 62, 63] (h0 + 21) H := tS.app3 1 sg_113 sj_116 rfl rfl
    have sj_118 : tS D (fF cI cL cC gC 0) [60, 61, 62, 63] (h0 + 20) H := tS.app3 1 sg_112 sj_117 rfl rfl
    have sj_119 : tS D (fF cI cL cC gC 0) [59, 60, 61, 62, 63] (h0 + 19) H := tS.app3 1 sg_111 sj_118 rfl rfl
    have sj_120 : tS D (fF cI cL cC gC 0) [58, 59, 60, 61, 62, 63] (h0 + 18) H := tS.app3 1 sg_110 sj_119 rfl rfl
    have sj_121 : tS D (fF cI cL cC gC 0) [57, 58, 59, 60, 61, 62, 63] (h0 + 17) H := tS.app3 1 sg_109 sj_120 rfl rfl
    have sj_122 : tS D (fF cI cL cC gC 0) [56, 57, 58, 59, 60, 61, 62, 63] (h0 + 16) H := tS.app3 1 sg_108 sj_121 rfl rfl
    have sj_123 : tS D (fF cI cL cC gC 0) [55, 56, 57, 58, 59, 60, 61, 62, 63] (h0 + 15) H := tS.app3 1 sg_107 sj_122 rfl rfl
    have sj_124 : tS D (fF cI cL cC gC 0) [54, 55, 56, 57, 58, 59, 60, 61, 62, 63] (h0 + 14) H := tS.app3 1 sg_106 sj_123 rfl rfl
    have sj_125 : tS D (fF cI cL cC gC 0) [53, 54, 55, 56, 57, 58, 59, 60, 61, 62, 63] (h0 + 13) H := tS.app3 1 sg_105 sj_124 rfl rfl
    have sj_126 : tS D (fF cI cL cC gC 0) [52, 53, 54, 55, 56, 57, 58, 59, 60, 61, 62, 63] (h0 + 12) H := tS.app3 1 sg_104 sj_125 rfl rfl
    have sj_127 : tS D (fF cI cL cC gC 0) [51, 52, 53, 54, 55, 56, 57, 58, 59, 60, 61, 62, 63] (h0 + 11) H := tS.app3 1 sg_103 sj_126 rfl rfl
    have sj_128 : tS D (fF cI cL cC gC 0) [50, 51, 52, 53, 54, 55, 56, 57, 58, 59, 60, 61, 62, 63] (h0 + 10) H := tS.app3 1 sg_102 sj_127 rfl rfl
    have sj_129 : tS D (fF cI cL cC gC 0) [49, 50, 51, 52, 53, 54, 55, 56, 57, 58, 59, 60, 61, 62, 63] (h0 + 9) H := tS.app3 1 sg_101 sj_128 rfl rfl
    have sj_130 : tS D (fF cI cL cC gC 0) [48, 49, 50, 51, 52, 53, 54, 55, 56, 57, 58, 59, 60, 61, 62, 63] (h0 + 8) H := tS.app3 1 sg_100 sj_129 rfl rfl
    have sj_131 : tS D (fF cI cL cC gC 0) [47, 48, 49, 50, 51, 52, 53, 54, 55, 56, 57, 58, 59, 60, 61, 62, 63] (h0 + 7) H := tS.app3 1 sg_99 sj_130 rfl rfl
    have sj_132 : tS D (fF cI cL cC gC 0) [46, 47, 48, 49, 50, 51, 52, 53, 54, 55, 56, 57, 58, 59, 60, 61, 62, 63] (h0 + 6) H := tS.app3 1 sg_98 sj_131 rfl rfl
    have sj_133 : tS D (fF cI cL cC gC 0) [45, 46, 47, 48, 49, 50, 51, 52, 53, 54, 55, 56, 57, 58, 59, 60, 61, 62, 63] (h0 + 5) H := tS.app3 1 sg_97 sj_132 rfl rfl
    have sj_134 : tS D (fF cI cL cC gC 0) [44, 45, 46, 47, 48, 49, 50, 51, 52, 53, 54, 55, 56, 57, 58, 59, 60, 61, 62, 63] (h0 + 4) H := tS.app3 1 sg_96 sj_133 rfl rfl
    have sj_135 : tS D (fF cI cL cC gC 0) [43, 44, 45, 46, 47, 48, 49, 50, 51, 52, 53, 54, 55, 56, 57, 58, 59, 60, 61, 62, 63] (h0 + 3) H := tS.app3 1 sg_95 sj_134 rfl rfl
    have sj_136 : tS D (fF cI cL cC gC 0) [42, 43, 44, 45, 46, 47, 48, 49, 50, 51, 52, 53, 54, 55, 56, 57, 58, 59, 60, 61, 62, 63] (h0 + 2) H := tS.app3 1 sg_94 sj_135 rfl rfl
    have sj_137 : tS D (fF cI cL cC gC 0) [41, 42, 43, 44, 45, 46, 47, 48, 49, 50, 51, 52, 53, 54, 55, 56, 57, 58, 59, 60, 61, 62, 63] (h0 + 1) H := tS.app3 1 sg_93 sj_136 rfl rfl
    have hT : tS D (fF cI cL cC gC 0) [41, 42, 43, 44, 45, 46, 47, 48, 49, 50, 51, 52, 53, 54, 55, 56, 57, 58, 59, 60, 61, 62, 63] (h0 + 1) H := sj_137
    have hT : tS D (fF cI cL cC gC 0) [40, 41, 42, 43, 44, 45, 46, 47, 48, 49, 50, 51, 52, 53, 54, 55, 56, 57, 58, 59, 60, 61, 62, 63] h0 H := tS.cons at0 hT (fun t h1 ht => ⟨h0 + 1, h0 + 2, h0 + 3, h0 + 4, h0 + 5, h0 + 6, h0 + 7, h0 + 8, h0 + 9, h0 + 10, h0 + 11, h0 + 12, h0 + 13, h0 + 14, h0 + 15, h0 + 16, h0 + 17, h0 + 18, h0 + 19, h0 + 20, h0 + 21, 0, 0, 0, 0, 0, h0 + 22, 0, 0, h0 + 23, rfl, (ht 0 (by decide)), (ht 1 (by decide)), (ht 2 (by decide)), (ht 3 (by decide)), (ht 4 (by decide)), (ht 5 (by decide)), (ht 6 (by decide)), (ht 7 (by decide)), (ht 8 (by decide)), (ht 9 (by decide)), (ht 10 (by decide)), (ht 11 (by decide)), (ht 12 (by decide)), (ht 13 (by decide)), (ht 14 (by decide)), (ht 15 (by decide)), (ht 16 (by decide)), (ht 17 (by decide)), (ht 18 (by decide)), (ht 19 (by decide)), (ht 20 (by decide)), (ht 21 (by decide)), (ht 22 (by decide))⟩)
    exact W.vret hx hb hr (fun u hu _ => ⟨rfl, by rw [hu]; exact hT, by rw [hu, hz]; rfl, by rw [hu]; exact hS.2.1⟩) hS.2.2 dX10_init_216 hlk
  have loop : ∀ (k h : Nat) (f : Nat → Int32) (H1 : Heap) (locs1 : List Loc) (ls1 : Array Slot), h + k = 192 → va_at D vwCl (h0 + 6, .inl (cI, 384, .inl f)) H1 → H1.size = H.size → (∀ q : Nat, q ≠ h0 + 6 → H1[q]? = H[q]?) → cF h0 s.heap H1 locs1 → lv_has ls1 2 [(1, .int (nI h)), (0, .ref h0)] → WW H1 locs1 (F0 m 187 ls1 []) := by
    intro k
    induction k with
    | zero =>
      intro h f H1 locs1 ls1 hh hat hz1 o1 hS hl
      have hh : h = 192 := by omega
      subst hh
      refine (hWW _ _ _).mpr ?_
      refine lv_iload_n hx hb dX10_init_187 rfl (lv_at hl 0 rfl) ?_
      refine lv_sipush (v := 192) hx hb dX10_init_188 (by decide) ?_
      refine lv_icmp_ge (tgt := 212) hx hb dX10_init_191 (by decide) (fun _ => ?_) (fun q => absurd (by decide) q)
      exact (hWW _ _ _).mp (kx f H1 locs1 ls1 hat hz1 o1 hS (lv_sub hl [1] rfl))
    | succ k ih =>
      intro h f H1 locs1 ls1 hh hat hz1 o1 hS hl
      have hlt : h < 192 := by omega
      refine (hWW _ _ _).mpr ?_
      refine lv_iload_n hx hb dX10_init_187 rfl (lv_at hl 0 rfl) ?_
      refine lv_sipush (v := 192) hx hb dX10_init_188 (by decide) ?_
      refine lv_icmp_ge (tgt := 212) hx hb dX10_init_191 (by decide) (fun q => absurd q (nI_ge (b := 192) hlt (by decide))) (fun _ => ?_)
      refine lv_aload_n hx hb dX10_init_194 rfl (lv_at hl 1 rfl) ?_
      refine va_get (D := D) (ci := 9) (v := .ref (h0 + 6)) (C := RX10) (T := TX10) (N := 36) hx hb hts in10 hown hK (va_one (va_at.keptP (b := h0) (j := 6) 0 at0 o1 rfl)) 0 rfl rfl 9 (by decide) (hts (.fieldLink RX10 25 "RiverModelModel" "weather" "[I") (List.mem_of_getElem? (i := 10) rfl)) (fun _ h9 => h9) rfl dX10_init_195 ?_
      refine lv_iconst (v := 2) hx hb dX10_init_198 (by decide) ?_
      refine lv_iload_n hx hb dX10_init_199 rfl (lv_at hl 0 rfl) ?_
      refine lv_imul hx hb dX10_init_200 ?_
      refine lv_seti (y := nI (2 * h)) (pk_mul 2 h) ?_
      refine lv_iconst (v := 1) hx hb dX10_init_201 (by decide) ?_
      refine lv_iadd hx hb dX10_init_202 ?_
      refine lv_seti (y := nI (2 * h + 1)) (nI_1 _) ?_
      refine lv_bipush (v := 10) hx hb dX10_init_203 (by decide) ?_
      refine nw_iast hx hb hK hat (vp_in_nI (by omega) (by decide)) dX10_init_205 (fun H2 hat2 hz2 o2 => ?_)
      refine lv_iinc (v := nI (h + 1)) (lv' := [(1, .int (nI (h + 1))), (0, .ref h0)]) hx hb dX10_init_206 hl (k := 0) rfl (by rw [nI_succ]; rfl) (by decide) rfl (fun ls hl => ?_)
      refine lv_goto (tgt := 187) hx hb dX10_init_209 (by decide) ?_
      exact (hWW _ _ _).mp (ih (h + 1) _ H2 _ ls (by omega) hat2 (hz2.trans hz1) (fun q hq => (o2 q hq).trans (o1 q hq)) (hS.put hz2 o2 (Nat.le_add_right _ _)) hl)
  exact loop 192 0 _ H _ ls (by omega) at_21 rfl (fun _ _ => rfl) hS hl
end
