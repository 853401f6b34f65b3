section
-- ===== PART A: goes FIRST, ahead of the names: the tables' words, and 'selects' of the private methods out of them =====
/-- a private method of a class that the tables say can be made, by its rows of tables_1 -/
def lw_okq (q : MethodName × Nat) : Prop := (q.1.cls ≠ "java/lang/invoke/MethodHandle" ∧ q.1.cls ≠ "java/lang/invoke/VarHandle") ∧ Cond.instantiable q.1.cls q.2 ∈ tables_1 ∧ Cond.privateMethod q.1 ∈ tables_1 ∧ Cond.instanceMethod q.1 ∈ tables_1
theorem lw_p0 : lw_okq (⟨"LuckyTicket$Reader", "advance", "()V"⟩, 9) := ⟨⟨by decide +kernel, by decide +kernel⟩, List.mem_of_getElem? (i := 91) (by decide +kernel), List.mem_of_getElem? (i := 269) (by decide +kernel), List.mem_of_getElem? (i := 270) (by decide +kernel)⟩
theorem lw_p1 : lw_okq (⟨"LuckyTicket$Reader", "readMeasures", "()V"⟩, 9) := ⟨⟨by decide +kernel, by decide +kernel⟩, List.mem_of_getElem? (i := 91) (by decide +kernel), List.mem_of_getElem? (i := 273) (by decide +kernel), List.mem_of_getElem? (i := 274) (by decide +kernel)⟩
theorem lw_p2 : lw_okq (⟨"LuckyTicket$Reader", "passWord", "(Ljava/lang/String;)V"⟩, 9) := ⟨⟨by decide +kernel, by decide +kernel⟩, List.mem_of_getElem? (i := 91) (by decide +kernel), List.mem_of_getElem? (i := 278) (by decide +kernel), List.mem_of_getElem? (i := 279) (by decide +kernel)⟩
theorem lw_p3 : lw_okq (⟨"LuckyTicket$Reader", "isWord", "(Ljava/lang/String;)Z"⟩, 9) := ⟨⟨by decide +kernel, by decide +kernel⟩, List.mem_of_getElem? (i := 91) (by decide +kernel), List.mem_of_getElem? (i := 282) (by decide +kernel), List.mem_of_getElem? (i := 283) (by decide +kernel)⟩
theorem lw_p4 : lw_okq (⟨"LuckyTicket$Reader", "refuse", "(I)V"⟩, 9) := ⟨⟨by decide +kernel, by decide +kernel⟩, List.mem_of_getElem? (i := 91) (by decide +kernel), List.mem_of_getElem? (i := 334) (by decide +kernel), List.mem_of_getElem? (i := 335) (by decide +kernel)⟩
theorem lw_p5 : lw_okq (⟨"LuckyTicket$Reader", "passNumber", "(II)I"⟩, 9) := ⟨⟨by decide +kernel, by decide +kernel⟩, List.mem_of_getElem? (i := 91) (by decide +kernel), List.mem_of_getElem? (i := 339) (by decide +kernel), List.mem_of_getElem? (i := 340) (by decide +kernel)⟩
theorem lw_p6 : lw_okq (⟨"LuckyTicket$Reader", "passLawWord", "()V"⟩, 9) := ⟨⟨by decide +kernel, by decide +kernel⟩, List.mem_of_getElem? (i := 91) (by decide +kernel), List.mem_of_getElem? (i := 350) (by decide +kernel), List.mem_of_getElem? (i := 351) (by decide +kernel)⟩
theorem lw_p7 : lw_okq (⟨"LuckyTicket$Reader", "readLaw", "(I)V"⟩, 9) := ⟨⟨by decide +kernel, by decide +kernel⟩, List.mem_of_getElem? (i := 91) (by decide +kernel), List.mem_of_getElem? (i := 355) (by decide +kernel), List.mem_of_getElem? (i := 356) (by decide +kernel)⟩
theorem lw_p8 : lw_okq (⟨"LuckyTicket$Reader", "readPart", "(I)V"⟩, 9) := ⟨⟨by decide +kernel, by decide +kernel⟩, List.mem_of_getElem? (i := 91) (by decide +kernel), List.mem_of_getElem? (i := 359) (by decide +kernel), List.mem_of_getElem? (i := 360) (by decide +kernel)⟩
theorem lw_p9 : lw_okq (⟨"LuckyTicket$Reader", "readKind", "(I)V"⟩, 9) := ⟨⟨by decide +kernel, by decide +kernel⟩, List.mem_of_getElem? (i := 91) (by decide +kernel), List.mem_of_getElem? (i := 363) (by decide +kernel), List.mem_of_getElem? (i := 364) (by decide +kernel)⟩
theorem lw_p10 : lw_okq (⟨"LuckyTicket$Reader", "isSign", "(C)Z"⟩, 9) := ⟨⟨by decide +kernel, by decide +kernel⟩, List.mem_of_getElem? (i := 91) (by decide +kernel), List.mem_of_getElem? (i := 367) (by decide +kernel), List.mem_of_getElem? (i := 368) (by decide +kernel)⟩
theorem lw_p11 : lw_okq (⟨"LuckyTicket$Reader", "passSign", "(C)V"⟩, 9) := ⟨⟨by decide +kernel, by decide +kernel⟩, List.mem_of_getElem? (i := 91) (by decide +kernel), List.mem_of_getElem? (i := 372) (by decide +kernel), List.mem_of_getElem? (i := 373) (by decide +kernel)⟩
theorem lw_p12 : lw_okq (⟨"LuckyTicket$Reader", "addPlain", "(IJJ)V"⟩, 9) := ⟨⟨by decide +kernel, by decide +kernel⟩, List.mem_of_getElem? (i := 91) (by decide +kernel), List.mem_of_getElem? (i := 394) (by decide +kernel), List.mem_of_getElem? (i := 395) (by decide +kernel)⟩
theorem lw_p13 : lw_okq (⟨"LuckyTicket$Reader", "readRest", "()V"⟩, 9) := ⟨⟨by decide +kernel, by decide +kernel⟩, List.mem_of_getElem? (i := 91) (by decide +kernel), List.mem_of_getElem? (i := 407) (by decide +kernel), List.mem_of_getElem? (i := 408) (by decide +kernel)⟩
theorem lw_p14 : lw_okq (⟨"LuckyTicket$Reader", "readSide", "()J"⟩, 9) := ⟨⟨by decide +kernel, by decide +kernel⟩, List.mem_of_getElem? (i := 91) (by decide +kernel), List.mem_of_getElem? (i := 414) (by decide +kernel), List.mem_of_getElem? (i := 415) (by decide +kernel)⟩
theorem lw_p15 : lw_okq (⟨"LuckyTicket$Reader", "passJoin", "()V"⟩, 9) := ⟨⟨by decide +kernel, by decide +kernel⟩, List.mem_of_getElem? (i := 91) (by decide +kernel), List.mem_of_getElem? (i := 421) (by decide +kernel), List.mem_of_getElem? (i := 422) (by decide +kernel)⟩
def lw_privs_1 : List (MethodName × Nat) := [(⟨"LuckyTicket$Reader", "advance", "()V"⟩, 9), (⟨"LuckyTicket$Reader", "readMeasures", "()V"⟩, 9), (⟨"LuckyTicket$Reader", "passWord", "(Ljava/lang/String;)V"⟩, 9), (⟨"LuckyTicket$Reader", "isWord", "(Ljava/lang/String;)Z"⟩, 9), (⟨"LuckyTicket$Reader", "refuse", "(I)V"⟩, 9), (⟨"LuckyTicket$Reader", "passNumber", "(II)I"⟩, 9), (⟨"LuckyTicket$Reader", "passLawWord", "()V"⟩, 9), (⟨"LuckyTicket$Reader", "readLaw", "(I)V"⟩, 9), (⟨"LuckyTicket$Reader", "readPart", "(I)V"⟩, 9), (⟨"LuckyTicket$Reader", "readKind", "(I)V"⟩, 9), (⟨"LuckyTicket$Reader", "isSign", "(C)Z"⟩, 9), (⟨"LuckyTicket$Reader", "passSign", "(C)V"⟩, 9), (⟨"LuckyTicket$Reader", "addPlain", "(IJJ)V"⟩, 9), (⟨"LuckyTicket$Reader", "readRest", "()V"⟩, 9), (⟨"LuckyTicket$Reader", "readSide", "()J"⟩, 9), (⟨"LuckyTicket$Reader", "passJoin", "()V"⟩, 9)]
theorem lw_r1 : ∀ q ∈ lw_privs_1, lw_okq q := List.forall_mem_cons.mpr ⟨lw_p0, List.forall_mem_cons.mpr ⟨lw_p1, List.forall_mem_cons.mpr ⟨lw_p2, List.forall_mem_cons.mpr ⟨lw_p3, List.forall_mem_cons.mpr ⟨lw_p4, List.forall_mem_cons.mpr ⟨lw_p5, List.forall_mem_cons.mpr ⟨lw_p6, List.forall_mem_cons.mpr ⟨lw_p7, List.forall_mem_cons.mpr ⟨lw_p8, List.forall_mem_cons.mpr ⟨lw_p9, List.forall_mem_cons.mpr ⟨lw_p10, List.forall_mem_cons.mpr ⟨lw_p11, List.forall_mem_cons.mpr ⟨lw_p12, List.forall_mem_cons.mpr ⟨lw_p13, List.forall_mem_cons.mpr ⟨lw_p14, List.forall_mem_cons.mpr ⟨lw_p15, fun _ h => absurd h List.not_mem_nil⟩⟩⟩⟩⟩⟩⟩⟩⟩⟩⟩⟩⟩⟩⟩⟩
theorem lw_p16 : lw_okq (⟨"LuckyTicket$Roll", "makeRoom", "(I)V"⟩, 7) := ⟨⟨by decide +kernel, by decide +kernel⟩, List.mem_of_getElem? (i := 127) (by decide +kernel), List.mem_of_getElem? (i := 435) (by decide +kernel), List.mem_of_getElem? (i := 436) (by decide +kernel)⟩
theorem lw_p17 : lw_okq (⟨"LuckyTicket$Script", "holds", "(IIJII)Z"⟩, 9) := ⟨⟨by decide +kernel, by decide +kernel⟩, List.mem_of_getElem? (i := 47) (by decide +kernel), List.mem_of_getElem? (i := 448) (by decide +kernel), List.mem_of_getElem? (i := 449) (by decide +kernel)⟩
theorem lw_p18 : lw_okq (⟨"LuckyTicket$Script", "isSo", "(IJII)Z"⟩, 9) := ⟨⟨by decide +kernel, by decide +kernel⟩, List.mem_of_getElem? (i := 47) (by decide +kernel), List.mem_of_getElem? (i := 452) (by decide +kernel), List.mem_of_getElem? (i := 453) (by decide +kernel)⟩
theorem lw_p19 : lw_okq (⟨"LuckyTicket", "hasBoth", "(II)Z"⟩, 10) := ⟨⟨by decide +kernel, by decide +kernel⟩, List.mem_of_getElem? (i := 22) (by decide +kernel), List.mem_of_getElem? (i := 508) (by decide +kernel), List.mem_of_getElem? (i := 509) (by decide +kernel)⟩
theorem lw_p20 : lw_okq (⟨"LuckyTicket", "hasSlot", "(I)Z"⟩, 10) := ⟨⟨by decide +kernel, by decide +kernel⟩, List.mem_of_getElem? (i := 22) (by decide +kernel), List.mem_of_getElem? (i := 665) (by decide +kernel), List.mem_of_getElem? (i := 666) (by decide +kernel)⟩
theorem lw_p21 : lw_okq (⟨"LuckyTicket", "refusalOfWorn", "(LLuckyTicket$Row;)I"⟩, 10) := ⟨⟨by decide +kernel, by decide +kernel⟩, List.mem_of_getElem? (i := 22) (by decide +kernel), List.mem_of_getElem? (i := 669) (by decide +kernel), List.mem_of_getElem? (i := 670) (by decide +kernel)⟩
theorem lw_p22 : lw_okq (⟨"LuckyTicket", "knownPlaces", "(LLuckyTicket$Row;)J"⟩, 10) := ⟨⟨by decide +kernel, by decide +kernel⟩, List.mem_of_getElem? (i := 22) (by decide +kernel), List.mem_of_getElem? (i := 677) (by decide +kernel), List.mem_of_getElem? (i := 678) (by decide +kernel)⟩
theorem lw_p23 : lw_okq (⟨"LuckyTicket", "knownFigures", "(LLuckyTicket$Row;)J"⟩, 10) := ⟨⟨by decide +kernel, by decide +kernel⟩, List.mem_of_getElem? (i := 22) (by decide +kernel), List.mem_of_getElem? (i := 691) (by decide +kernel), List.mem_of_getElem? (i := 692) (by decide +kernel)⟩
theorem lw_p24 : lw_okq (⟨"LuckyTicket", "gonePlaces", "(LLuckyTicket$Row;)I"⟩, 10) := ⟨⟨by decide +kernel, by decide +kernel⟩, List.mem_of_getElem? (i := 22) (by decide +kernel), List.mem_of_getElem? (i := 698) (by decide +kernel), List.mem_of_getElem? (i := 699) (by decide +kernel)⟩
theorem lw_p25 : lw_okq (⟨"LuckyTicket$Roll", "isFitting", "(IIJJ)Z"⟩, 7) := ⟨⟨by decide +kernel, by decide +kernel⟩, List.mem_of_getElem? (i := 127) (by decide +kernel), List.mem_of_getElem? (i := 707) (by decide +kernel), List.mem_of_getElem? (i := 708) (by decide +kernel)⟩
theorem lw_p26 : lw_okq (⟨"LuckyTicket", "countFigures", "(II)V"⟩, 10) := ⟨⟨by decide +kernel, by decide +kernel⟩, List.mem_of_getElem? (i := 22) (by decide +kernel), List.mem_of_getElem? (i := 824) (by decide +kernel), List.mem_of_getElem? (i := 825) (by decide +kernel)⟩
theorem lw_p27 : lw_okq (⟨"LuckyTicket", "countedFigure", "(I)I"⟩, 10) := ⟨⟨by decide +kernel, by decide +kernel⟩, List.mem_of_getElem? (i := 22) (by decide +kernel), List.mem_of_getElem? (i := 831) (by decide +kernel), List.mem_of_getElem? (i := 832) (by decide +kernel)⟩
theorem lw_p28 : lw_okq (⟨"LuckyTicket$Search", "reach", "(III)I"⟩, 3) := ⟨⟨by decide +kernel, by decide +kernel⟩, List.mem_of_getElem? (i := 184) (by decide +kernel), List.mem_of_getElem? (i := 866) (by decide +kernel), List.mem_of_getElem? (i := 867) (by decide +kernel)⟩
theorem lw_p29 : lw_okq (⟨"LuckyTicket$Search", "spreadAround", "(LLuckyTicket$Roll;III)I"⟩, 3) := ⟨⟨by decide +kernel, by decide +kernel⟩, List.mem_of_getElem? (i := 184) (by decide +kernel), List.mem_of_getElem? (i := 870) (by decide +kernel), List.mem_of_getElem? (i := 871) (by decide +kernel)⟩
theorem lw_p30 : lw_okq (⟨"LuckyTicket$Search", "spreadAlong", "(LLuckyTicket$Roll;IIIII)I"⟩, 3) := ⟨⟨by decide +kernel, by decide +kernel⟩, List.mem_of_getElem? (i := 184) (by decide +kernel), List.mem_of_getElem? (i := 874) (by decide +kernel), List.mem_of_getElem? (i := 875) (by decide +kernel)⟩
theorem lw_p31 : lw_okq (⟨"LuckyTicket$SumTable", "addPlace", "(I)V"⟩, 1) := ⟨⟨by decide +kernel, by decide +kernel⟩, List.mem_of_getElem? (i := 200) (by decide +kernel), List.mem_of_getElem? (i := 934) (by decide +kernel), List.mem_of_getElem? (i := 935) (by decide +kernel)⟩
def lw_privs_2 : List (MethodName × Nat) := [(⟨"LuckyTicket$Roll", "makeRoom", "(I)V"⟩, 7), (⟨"LuckyTicket$Script", "holds", "(IIJII)Z"⟩, 9), (⟨"LuckyTicket$Script", "isSo", "(IJII)Z"⟩, 9), (⟨"LuckyTicket", "hasBoth", "(II)Z"⟩, 10), (⟨"LuckyTicket", "hasSlot", "(I)Z"⟩, 10), (⟨"LuckyTicket", "refusalOfWorn", "(LLuckyTicket$Row;)I"⟩, 10), (⟨"LuckyTicket", "knownPlaces", "(LLuckyTicket$Row;)J"⟩, 10), (⟨"LuckyTicket", "knownFigures", "(LLuckyTicket$Row;)J"⟩, 10), (⟨"LuckyTicket", "gonePlaces", "(LLuckyTicket$Row;)I"⟩, 10), (⟨"LuckyTicket$Roll", "isFitting", "(IIJJ)Z"⟩, 7), (⟨"LuckyTicket", "countFigures", "(II)V"⟩, 10), (⟨"LuckyTicket", "countedFigure", "(I)I"⟩, 10), (⟨"LuckyTicket$Search", "reach", "(III)I"⟩, 3), (⟨"LuckyTicket$Search", "spreadAround", "(LLuckyTicket$Roll;III)I"⟩, 3), (⟨"LuckyTicket$Search", "spreadAlong", "(LLuckyTicket$Roll;IIIII)I"⟩, 3), (⟨"LuckyTicket$SumTable", "addPlace", "(I)V"⟩, 1)]
theorem lw_r2 : ∀ q ∈ lw_privs_2, lw_okq q := List.forall_mem_cons.mpr ⟨lw_p16, List.forall_mem_cons.mpr ⟨lw_p17, List.forall_mem_cons.mpr ⟨lw_p18, List.forall_mem_cons.mpr ⟨lw_p19, List.forall_mem_cons.mpr ⟨lw_p20, List.forall_mem_cons.mpr ⟨lw_p21, List.forall_mem_cons.mpr ⟨lw_p22, List.forall_mem_cons.mpr ⟨lw_p23, List.forall_mem_cons.mpr ⟨lw_p24, List.forall_mem_cons.mpr ⟨lw_p25, List.forall_mem_cons.mpr ⟨lw_p26, List.forall_mem_cons.mpr ⟨lw_p27, List.forall_mem_cons.mpr ⟨lw_p28, List.forall_mem_cons.mpr ⟨lw_p29, List.forall_mem_cons.mpr ⟨lw_p30, List.forall_mem_cons.mpr ⟨lw_p31, fun _ h => absurd h List.not_mem_nil⟩⟩⟩⟩⟩⟩⟩⟩⟩⟩⟩⟩⟩⟩⟩⟩
theorem lw_p32 : lw_okq (⟨"LuckyTicket", "standingSlots", "()I"⟩, 10) := ⟨⟨by decide +kernel, by decide +kernel⟩, List.mem_of_getElem? (i := 22) (by decide +kernel), List.mem_of_getElem? (i := 967) (by decide +kernel), List.mem_of_getElem? (i := 968) (by decide +kernel)⟩
theorem lw_p33 : lw_okq (⟨"LuckyTicket$Row", "cut", "(J)J"⟩, 3) := ⟨⟨by decide +kernel, by decide +kernel⟩, List.mem_of_getElem? (i := 165) (by decide +kernel), List.mem_of_getElem? (i := 1007) (by decide +kernel), List.mem_of_getElem? (i := 1008) (by decide +kernel)⟩
theorem lw_p34 : lw_okq (⟨"LuckyTicketModel", "fillLuck", "()V"⟩, 33) := ⟨⟨by decide +kernel, by decide +kernel⟩, List.mem_of_getElem? (i := 1021) (by decide +kernel), List.mem_of_getElem? (i := 1138) (by decide +kernel), List.mem_of_getElem? (i := 1139) (by decide +kernel)⟩
theorem lw_p35 : lw_okq (⟨"LuckyTicketModel", "fillFigures", "(I)V"⟩, 33) := ⟨⟨by decide +kernel, by decide +kernel⟩, List.mem_of_getElem? (i := 1021) (by decide +kernel), List.mem_of_getElem? (i := 1142) (by decide +kernel), List.mem_of_getElem? (i := 1143) (by decide +kernel)⟩
theorem lw_p36 : lw_okq (⟨"LuckyTicketModel", "isBy", "(II)Z"⟩, 33) := ⟨⟨by decide +kernel, by decide +kernel⟩, List.mem_of_getElem? (i := 1021) (by decide +kernel), List.mem_of_getElem? (i := 1146) (by decide +kernel), List.mem_of_getElem? (i := 1147) (by decide +kernel)⟩
theorem lw_p37 : lw_okq (⟨"LuckyTicketModel", "holds", "(II)Z"⟩, 33) := ⟨⟨by decide +kernel, by decide +kernel⟩, List.mem_of_getElem? (i := 1021) (by decide +kernel), List.mem_of_getElem? (i := 1150) (by decide +kernel), List.mem_of_getElem? (i := 1151) (by decide +kernel)⟩
theorem lw_p38 : lw_okq (⟨"LuckyTicketModel", "firstHalf", "()I"⟩, 33) := ⟨⟨by decide +kernel, by decide +kernel⟩, List.mem_of_getElem? (i := 1021) (by decide +kernel), List.mem_of_getElem? (i := 1154) (by decide +kernel), List.mem_of_getElem? (i := 1155) (by decide +kernel)⟩
theorem lw_p39 : lw_okq (⟨"LuckyTicketModel", "sumOf", "(I)I"⟩, 33) := ⟨⟨by decide +kernel, by decide +kernel⟩, List.mem_of_getElem? (i := 1021) (by decide +kernel), List.mem_of_getElem? (i := 1158) (by decide +kernel), List.mem_of_getElem? (i := 1159) (by decide +kernel)⟩
theorem lw_p40 : lw_okq (⟨"LuckyTicketModel", "lastHalf", "()I"⟩, 33) := ⟨⟨by decide +kernel, by decide +kernel⟩, List.mem_of_getElem? (i := 1021) (by decide +kernel), List.mem_of_getElem? (i := 1162) (by decide +kernel), List.mem_of_getElem? (i := 1163) (by decide +kernel)⟩
theorem lw_p41 : lw_okq (⟨"LuckyTicketModel", "evens", "()I"⟩, 33) := ⟨⟨by decide +kernel, by decide +kernel⟩, List.mem_of_getElem? (i := 1021) (by decide +kernel), List.mem_of_getElem? (i := 1166) (by decide +kernel), List.mem_of_getElem? (i := 1167) (by decide +kernel)⟩
theorem lw_p42 : lw_okq (⟨"LuckyTicketModel", "all", "()I"⟩, 33) := ⟨⟨by decide +kernel, by decide +kernel⟩, List.mem_of_getElem? (i := 1021) (by decide +kernel), List.mem_of_getElem? (i := 1170) (by decide +kernel), List.mem_of_getElem? (i := 1171) (by decide +kernel)⟩
theorem lw_p43 : lw_okq (⟨"LuckyTicketModel", "isMirror", "()Z"⟩, 33) := ⟨⟨by decide +kernel, by decide +kernel⟩, List.mem_of_getElem? (i := 1021) (by decide +kernel), List.mem_of_getElem? (i := 1174) (by decide +kernel), List.mem_of_getElem? (i := 1175) (by decide +kernel)⟩
theorem lw_p44 : lw_okq (⟨"LuckyTicketModel", "unlikeMany", "()I"⟩, 33) := ⟨⟨by decide +kernel, by decide +kernel⟩, List.mem_of_getElem? (i := 1021) (by decide +kernel), List.mem_of_getElem? (i := 1178) (by decide +kernel), List.mem_of_getElem? (i := 1179) (by decide +kernel)⟩
theorem lw_p45 : lw_okq (⟨"LuckyTicketModel", "advance", "()V"⟩, 33) := ⟨⟨by decide +kernel, by decide +kernel⟩, List.mem_of_getElem? (i := 1021) (by decide +kernel), List.mem_of_getElem? (i := 1201) (by decide +kernel), List.mem_of_getElem? (i := 1202) (by decide +kernel)⟩
theorem lw_p46 : lw_okq (⟨"LuckyTicketModel", "see", "(I)I"⟩, 33) := ⟨⟨by decide +kernel, by decide +kernel⟩, List.mem_of_getElem? (i := 1021) (by decide +kernel), List.mem_of_getElem? (i := 1205) (by decide +kernel), List.mem_of_getElem? (i := 1206) (by decide +kernel)⟩
theorem lw_p47 : lw_okq (⟨"LuckyTicketModel", "good", "()Z"⟩, 33) := ⟨⟨by decide +kernel, by decide +kernel⟩, List.mem_of_getElem? (i := 1021) (by decide +kernel), List.mem_of_getElem? (i := 1215) (by decide +kernel), List.mem_of_getElem? (i := 1216) (by decide +kernel)⟩
def lw_privs_3 : List (MethodName × Nat) := [(⟨"LuckyTicket", "standingSlots", "()I"⟩, 10), (⟨"LuckyTicket$Row", "cut", "(J)J"⟩, 3), (⟨"LuckyTicketModel", "fillLuck", "()V"⟩, 33), (⟨"LuckyTicketModel", "fillFigures", "(I)V"⟩, 33), (⟨"LuckyTicketModel", "isBy", "(II)Z"⟩, 33), (⟨"LuckyTicketModel", "holds", "(II)Z"⟩, 33), (⟨"LuckyTicketModel", "firstHalf", "()I"⟩, 33), (⟨"LuckyTicketModel", "sumOf", "(I)I"⟩, 33), (⟨"LuckyTicketModel", "lastHalf", "()I"⟩, 33), (⟨"LuckyTicketModel", "evens", "()I"⟩, 33), (⟨"LuckyTicketModel", "all", "()I"⟩, 33), (⟨"LuckyTicketModel", "isMirror", "()Z"⟩, 33), (⟨"LuckyTicketModel", "unlikeMany", "()I"⟩, 33), (⟨"LuckyTicketModel", "advance", "()V"⟩, 33), (⟨"LuckyTicketModel", "see", "(I)I"⟩, 33), (⟨"LuckyTicketModel", "good", "()Z"⟩, 33)]
theorem lw_r3 : ∀ q ∈ lw_privs_3, lw_okq q := List.forall_mem_cons.mpr ⟨lw_p32, List.forall_mem_cons.mpr ⟨lw_p33, List.forall_mem_cons.mpr ⟨lw_p34, List.forall_mem_cons.mpr ⟨lw_p35, List.forall_mem_cons.mpr ⟨lw_p36, List.forall_mem_cons.mpr ⟨lw_p37, List.forall_mem_cons.mpr ⟨lw_p38, List.forall_mem_cons.mpr ⟨lw_p39, List.forall_mem_cons.mpr ⟨lw_p40, List.forall_mem_cons.mpr ⟨lw_p41, List.forall_mem_cons.mpr ⟨lw_p42, List.forall_mem_cons.mpr ⟨lw_p43, List.forall_mem_cons.mpr ⟨lw_p44, List.forall_mem_cons.mpr ⟨lw_p45, List.forall_mem_cons.mpr ⟨lw_p46, List.forall_mem_cons.mpr ⟨lw_p47, fun _ h => absurd h List.not_mem_nil⟩⟩⟩⟩⟩⟩⟩⟩⟩⟩⟩⟩⟩⟩⟩⟩
theorem lw_p48 : lw_okq (⟨"LuckyTicketModel", "readLine", "()V"⟩, 33) := ⟨⟨by decide +kernel, by decide +kernel⟩, List.mem_of_getElem? (i := 1021) (by decide +kernel), List.mem_of_getElem? (i := 1219) (by decide +kernel), List.mem_of_getElem? (i := 1220) (by decide +kernel)⟩
theorem lw_p49 : lw_okq (⟨"LuckyTicketModel", "readRoll", "()V"⟩, 33) := ⟨⟨by decide +kernel, by decide +kernel⟩, List.mem_of_getElem? (i := 1021) (by decide +kernel), List.mem_of_getElem? (i := 1223) (by decide +kernel), List.mem_of_getElem? (i := 1224) (by decide +kernel)⟩
theorem lw_p50 : lw_okq (⟨"LuckyTicketModel", "needs", "(Ljava/lang/String;)V"⟩, 33) := ⟨⟨by decide +kernel, by decide +kernel⟩, List.mem_of_getElem? (i := 1021) (by decide +kernel), List.mem_of_getElem? (i := 1228) (by decide +kernel), List.mem_of_getElem? (i := 1229) (by decide +kernel)⟩
theorem lw_p51 : lw_okq (⟨"LuckyTicketModel", "takes", "(Ljava/lang/String;)Z"⟩, 33) := ⟨⟨by decide +kernel, by decide +kernel⟩, List.mem_of_getElem? (i := 1021) (by decide +kernel), List.mem_of_getElem? (i := 1232) (by decide +kernel), List.mem_of_getElem? (i := 1233) (by decide +kernel)⟩
theorem lw_p52 : lw_okq (⟨"LuckyTicketModel", "is", "(Ljava/lang/String;)Z"⟩, 33) := ⟨⟨by decide +kernel, by decide +kernel⟩, List.mem_of_getElem? (i := 1021) (by decide +kernel), List.mem_of_getElem? (i := 1236) (by decide +kernel), List.mem_of_getElem? (i := 1237) (by decide +kernel)⟩
theorem lw_p53 : lw_okq (⟨"LuckyTicketModel", "errs", "(I)V"⟩, 33) := ⟨⟨by decide +kernel, by decide +kernel⟩, List.mem_of_getElem? (i := 1021) (by decide +kernel), List.mem_of_getElem? (i := 1242) (by decide +kernel), List.mem_of_getElem? (i := 1243) (by decide +kernel)⟩
theorem lw_p54 : lw_okq (⟨"LuckyTicketModel", "told", "(Ljava/lang/String;II)I"⟩, 33) := ⟨⟨by decide +kernel, by decide +kernel⟩, List.mem_of_getElem? (i := 1021) (by decide +kernel), List.mem_of_getElem? (i := 1247) (by decide +kernel), List.mem_of_getElem? (i := 1248) (by decide +kernel)⟩
theorem lw_p55 : lw_okq (⟨"LuckyTicketModel", "number", "(II)I"⟩, 33) := ⟨⟨by decide +kernel, by decide +kernel⟩, List.mem_of_getElem? (i := 1021) (by decide +kernel), List.mem_of_getElem? (i := 1251) (by decide +kernel), List.mem_of_getElem? (i := 1252) (by decide +kernel)⟩
theorem lw_p56 : lw_okq (⟨"LuckyTicketModel", "readLaw", "()V"⟩, 33) := ⟨⟨by decide +kernel, by decide +kernel⟩, List.mem_of_getElem? (i := 1021) (by decide +kernel), List.mem_of_getElem? (i := 1261) (by decide +kernel), List.mem_of_getElem? (i := 1262) (by decide +kernel)⟩
theorem lw_p57 : lw_okq (⟨"LuckyTicketModel", "opens", "(I)V"⟩, 33) := ⟨⟨by decide +kernel, by decide +kernel⟩, List.mem_of_getElem? (i := 1021) (by decide +kernel), List.mem_of_getElem? (i := 1266) (by decide +kernel), List.mem_of_getElem? (i := 1267) (by decide +kernel)⟩
theorem lw_p58 : lw_okq (⟨"LuckyTicketModel", "readKind", "()V"⟩, 33) := ⟨⟨by decide +kernel, by decide +kernel⟩, List.mem_of_getElem? (i := 1021) (by decide +kernel), List.mem_of_getElem? (i := 1270) (by decide +kernel), List.mem_of_getElem? (i := 1271) (by decide +kernel)⟩
theorem lw_p59 : lw_okq (⟨"LuckyTicketModel", "step", "(III)V"⟩, 33) := ⟨⟨by decide +kernel, by decide +kernel⟩, List.mem_of_getElem? (i := 1021) (by decide +kernel), List.mem_of_getElem? (i := 1275) (by decide +kernel), List.mem_of_getElem? (i := 1276) (by decide +kernel)⟩
theorem lw_p60 : lw_okq (⟨"LuckyTicketModel", "readRest", "()V"⟩, 33) := ⟨⟨by decide +kernel, by decide +kernel⟩, List.mem_of_getElem? (i := 1021) (by decide +kernel), List.mem_of_getElem? (i := 1285) (by decide +kernel), List.mem_of_getElem? (i := 1286) (by decide +kernel)⟩
theorem lw_p61 : lw_okq (⟨"LuckyTicketModel", "side", "()I"⟩, 33) := ⟨⟨by decide +kernel, by decide +kernel⟩, List.mem_of_getElem? (i := 1021) (by decide +kernel), List.mem_of_getElem? (i := 1293) (by decide +kernel), List.mem_of_getElem? (i := 1294) (by decide +kernel)⟩
theorem lw_p62 : lw_okq (⟨"LuckyTicketModel", "doneNots", "()V"⟩, 33) := ⟨⟨by decide +kernel, by decide +kernel⟩, List.mem_of_getElem? (i := 1021) (by decide +kernel), List.mem_of_getElem? (i := 1298) (by decide +kernel), List.mem_of_getElem? (i := 1299) (by decide +kernel)⟩
theorem lw_p63 : lw_okq (⟨"LuckyTicketModel", "waitsFor", "(I)Z"⟩, 33) := ⟨⟨by decide +kernel, by decide +kernel⟩, List.mem_of_getElem? (i := 1021) (by decide +kernel), List.mem_of_getElem? (i := 1302) (by decide +kernel), List.mem_of_getElem? (i := 1303) (by decide +kernel)⟩
def lw_privs_4 : List (MethodName × Nat) := [(⟨"LuckyTicketModel", "readLine", "()V"⟩, 33), (⟨"LuckyTicketModel", "readRoll", "()V"⟩, 33), (⟨"LuckyTicketModel", "needs", "(Ljava/lang/String;)V"⟩, 33), (⟨"LuckyTicketModel", "takes", "(Ljava/lang/String;)Z"⟩, 33), (⟨"LuckyTicketModel", "is", "(Ljava/lang/String;)Z"⟩, 33), (⟨"LuckyTicketModel", "errs", "(I)V"⟩, 33), (⟨"LuckyTicketModel", "told", "(Ljava/lang/String;II)I"⟩, 33), (⟨"LuckyTicketModel", "number", "(II)I"⟩, 33), (⟨"LuckyTicketModel", "readLaw", "()V"⟩, 33), (⟨"LuckyTicketModel", "opens", "(I)V"⟩, 33), (⟨"LuckyTicketModel", "readKind", "()V"⟩, 33), (⟨"LuckyTicketModel", "step", "(III)V"⟩, 33), (⟨"LuckyTicketModel", "readRest", "()V"⟩, 33), (⟨"LuckyTicketModel", "side", "()I"⟩, 33), (⟨"LuckyTicketModel", "doneNots", "()V"⟩, 33), (⟨"LuckyTicketModel", "waitsFor", "(I)Z"⟩, 33)]
theorem lw_r4 : ∀ q ∈ lw_privs_4, lw_okq q := List.forall_mem_cons.mpr ⟨lw_p48, List.forall_mem_cons.mpr ⟨lw_p49, List.forall_mem_cons.mpr ⟨lw_p50, List.forall_mem_cons.mpr ⟨lw_p51, List.forall_mem_cons.mpr ⟨lw_p52, List.forall_mem_cons.mpr ⟨lw_p53, List.forall_mem_cons.mpr ⟨lw_p54, List.forall_mem_cons.mpr ⟨lw_p55, List.forall_mem_cons.mpr ⟨lw_p56, List.forall_mem_cons.mpr ⟨lw_p57, List.forall_mem_cons.mpr ⟨lw_p58, List.forall_mem_cons.mpr ⟨lw_p59, List.forall_mem_cons.mpr ⟨lw_p60, List.forall_mem_cons.mpr ⟨lw_p61, List.forall_mem_cons.mpr ⟨lw_p62, List.forall_mem_cons.mpr ⟨lw_p63, fun _ h => absurd h List.not_mem_nil⟩⟩⟩⟩⟩⟩⟩⟩⟩⟩⟩⟩⟩⟩⟩⟩
theorem lw_p64 : lw_okq (⟨"LuckyTicketModel", "done", "()V"⟩, 33) := ⟨⟨by decide +kernel, by decide +kernel⟩, List.mem_of_getElem? (i := 1021) (by decide +kernel), List.mem_of_getElem? (i := 1306) (by decide +kernel), List.mem_of_getElem? (i := 1307) (by decide +kernel)⟩
theorem lw_p65 : lw_okq (⟨"LuckyTicketModel", "isOpen", "()Z"⟩, 33) := ⟨⟨by decide +kernel, by decide +kernel⟩, List.mem_of_getElem? (i := 1021) (by decide +kernel), List.mem_of_getElem? (i := 1310) (by decide +kernel), List.mem_of_getElem? (i := 1311) (by decide +kernel)⟩
theorem lw_p66 : lw_okq (⟨"LuckyTicketModel", "shuts", "()V"⟩, 33) := ⟨⟨by decide +kernel, by decide +kernel⟩, List.mem_of_getElem? (i := 1021) (by decide +kernel), List.mem_of_getElem? (i := 1314) (by decide +kernel), List.mem_of_getElem? (i := 1315) (by decide +kernel)⟩
theorem lw_p67 : lw_okq (⟨"LuckyTicketModel", "doneJoins", "()V"⟩, 33) := ⟨⟨by decide +kernel, by decide +kernel⟩, List.mem_of_getElem? (i := 1021) (by decide +kernel), List.mem_of_getElem? (i := 1318) (by decide +kernel), List.mem_of_getElem? (i := 1319) (by decide +kernel)⟩
theorem lw_p68 : lw_okq (⟨"LuckyTicketModel", "joins", "(I)V"⟩, 33) := ⟨⟨by decide +kernel, by decide +kernel⟩, List.mem_of_getElem? (i := 1021) (by decide +kernel), List.mem_of_getElem? (i := 1324) (by decide +kernel), List.mem_of_getElem? (i := 1325) (by decide +kernel)⟩
theorem lw_p69 : lw_okq (⟨"LuckyTicketModel", "isTicket", "(J)Z"⟩, 33) := ⟨⟨by decide +kernel, by decide +kernel⟩, List.mem_of_getElem? (i := 1021) (by decide +kernel), List.mem_of_getElem? (i := 1332) (by decide +kernel), List.mem_of_getElem? (i := 1333) (by decide +kernel)⟩
theorem lw_p70 : lw_okq (⟨"LuckyTicketModel", "isPlace", "(I)Z"⟩, 33) := ⟨⟨by decide +kernel, by decide +kernel⟩, List.mem_of_getElem? (i := 1021) (by decide +kernel), List.mem_of_getElem? (i := 1336) (by decide +kernel), List.mem_of_getElem? (i := 1337) (by decide +kernel)⟩
theorem lw_p71 : lw_okq (⟨"LuckyTicketModel", "isBoth", "(II)Z"⟩, 33) := ⟨⟨by decide +kernel, by decide +kernel⟩, List.mem_of_getElem? (i := 1021) (by decide +kernel), List.mem_of_getElem? (i := 1349) (by decide +kernel), List.mem_of_getElem? (i := 1350) (by decide +kernel)⟩
theorem lw_p72 : lw_okq (⟨"LuckyTicketModel", "isLaw", "(I)Z"⟩, 33) := ⟨⟨by decide +kernel, by decide +kernel⟩, List.mem_of_getElem? (i := 1021) (by decide +kernel), List.mem_of_getElem? (i := 1353) (by decide +kernel), List.mem_of_getElem? (i := 1354) (by decide +kernel)⟩
theorem lw_p73 : lw_okq (⟨"LuckyTicketModel", "isLucky", "(II)Z"⟩, 33) := ⟨⟨by decide +kernel, by decide +kernel⟩, List.mem_of_getElem? (i := 1021) (by decide +kernel), List.mem_of_getElem? (i := 1357) (by decide +kernel), List.mem_of_getElem? (i := 1358) (by decide +kernel)⟩
theorem lw_p74 : lw_okq (⟨"LuckyTicketModel", "allOf", "(I)I"⟩, 33) := ⟨⟨by decide +kernel, by decide +kernel⟩, List.mem_of_getElem? (i := 1021) (by decide +kernel), List.mem_of_getElem? (i := 1369) (by decide +kernel), List.mem_of_getElem? (i := 1370) (by decide +kernel)⟩
theorem lw_p75 : lw_okq (⟨"LuckyTicketModel", "rankOf", "(II)I"⟩, 33) := ⟨⟨by decide +kernel, by decide +kernel⟩, List.mem_of_getElem? (i := 1021) (by decide +kernel), List.mem_of_getElem? (i := 1373) (by decide +kernel), List.mem_of_getElem? (i := 1374) (by decide +kernel)⟩
theorem lw_p76 : lw_okq (⟨"LuckyTicketModel", "nextOf", "(II)I"⟩, 33) := ⟨⟨by decide +kernel, by decide +kernel⟩, List.mem_of_getElem? (i := 1021) (by decide +kernel), List.mem_of_getElem? (i := 1385) (by decide +kernel), List.mem_of_getElem? (i := 1386) (by decide +kernel)⟩
theorem lw_p77 : lw_okq (⟨"LuckyTicketModel", "lastOf", "(II)I"⟩, 33) := ⟨⟨by decide +kernel, by decide +kernel⟩, List.mem_of_getElem? (i := 1021) (by decide +kernel), List.mem_of_getElem? (i := 1393) (by decide +kernel), List.mem_of_getElem? (i := 1394) (by decide +kernel)⟩
theorem lw_p78 : lw_okq (⟨"LuckyTicketModel", "nthOf", "(II)I"⟩, 33) := ⟨⟨by decide +kernel, by decide +kernel⟩, List.mem_of_getElem? (i := 1021) (by decide +kernel), List.mem_of_getElem? (i := 1401) (by decide +kernel), List.mem_of_getElem? (i := 1402) (by decide +kernel)⟩
theorem lw_p79 : lw_okq (⟨"LuckyTicketModel", "goesOn", "(II)I"⟩, 33) := ⟨⟨by decide +kernel, by decide +kernel⟩, List.mem_of_getElem? (i := 1021) (by decide +kernel), List.mem_of_getElem? (i := 1417) (by decide +kernel), List.mem_of_getElem? (i := 1418) (by decide +kernel)⟩
def lw_privs_5 : List (MethodName × Nat) := [(⟨"LuckyTicketModel", "done", "()V"⟩, 33), (⟨"LuckyTicketModel", "isOpen", "()Z"⟩, 33), (⟨"LuckyTicketModel", "shuts", "()V"⟩, 33), (⟨"LuckyTicketModel", "doneJoins", "()V"⟩, 33), (⟨"LuckyTicketModel", "joins", "(I)V"⟩, 33), (⟨"LuckyTicketModel", "isTicket", "(J)Z"⟩, 33), (⟨"LuckyTicketModel", "isPlace", "(I)Z"⟩, 33), (⟨"LuckyTicketModel", "isBoth", "(II)Z"⟩, 33), (⟨"LuckyTicketModel", "isLaw", "(I)Z"⟩, 33), (⟨"LuckyTicketModel", "isLucky", "(II)Z"⟩, 33), (⟨"LuckyTicketModel", "allOf", "(I)I"⟩, 33), (⟨"LuckyTicketModel", "rankOf", "(II)I"⟩, 33), (⟨"LuckyTicketModel", "nextOf", "(II)I"⟩, 33), (⟨"LuckyTicketModel", "lastOf", "(II)I"⟩, 33), (⟨"LuckyTicketModel", "nthOf", "(II)I"⟩, 33), (⟨"LuckyTicketModel", "goesOn", "(II)I"⟩, 33)]
theorem lw_r5 : ∀ q ∈ lw_privs_5, lw_okq q := List.forall_mem_cons.mpr ⟨lw_p64, List.forall_mem_cons.mpr ⟨lw_p65, List.forall_mem_cons.mpr ⟨lw_p66, List.forall_mem_cons.mpr ⟨lw_p67, List.forall_mem_cons.mpr ⟨lw_p68, List.forall_mem_cons.mpr ⟨lw_p69, List.forall_mem_cons.mpr ⟨lw_p70, List.forall_mem_cons.mpr ⟨lw_p71, List.forall_mem_cons.mpr ⟨lw_p72, List.forall_mem_cons.mpr ⟨lw_p73, List.forall_mem_cons.mpr ⟨lw_p74, List.forall_mem_cons.mpr ⟨lw_p75, List.forall_mem_cons.mpr ⟨lw_p76, List.forall_mem_cons.mpr ⟨lw_p77, List.forall_mem_cons.mpr ⟨lw_p78, List.forall_mem_cons.mpr ⟨lw_p79, fun _ h => absurd h List.not_mem_nil⟩⟩⟩⟩⟩⟩⟩⟩⟩⟩⟩⟩⟩⟩⟩⟩
theorem lw_p80 : lw_okq (⟨"LuckyTicketModel", "hitsOf", "(IIII)I"⟩, 33) := ⟨⟨by decide +kernel, by decide +kernel⟩, List.mem_of_getElem? (i := 1021) (by decide +kernel), List.mem_of_getElem? (i := 1425) (by decide +kernel), List.mem_of_getElem? (i := 1426) (by decide +kernel)⟩
theorem lw_p81 : lw_okq (⟨"LuckyTicketModel", "isSet", "(I)Z"⟩, 33) := ⟨⟨by decide +kernel, by decide +kernel⟩, List.mem_of_getElem? (i := 1021) (by decide +kernel), List.mem_of_getElem? (i := 1456) (by decide +kernel), List.mem_of_getElem? (i := 1457) (by decide +kernel)⟩
theorem lw_p82 : lw_okq (⟨"LuckyTicketModel", "isRoll", "()Z"⟩, 33) := ⟨⟨by decide +kernel, by decide +kernel⟩, List.mem_of_getElem? (i := 1021) (by decide +kernel), List.mem_of_getElem? (i := 1460) (by decide +kernel), List.mem_of_getElem? (i := 1461) (by decide +kernel)⟩
theorem lw_p83 : lw_okq (⟨"LuckyTicketModel", "differOf", "(II)I"⟩, 33) := ⟨⟨by decide +kernel, by decide +kernel⟩, List.mem_of_getElem? (i := 1021) (by decide +kernel), List.mem_of_getElem? (i := 1480) (by decide +kernel), List.mem_of_getElem? (i := 1481) (by decide +kernel)⟩
theorem lw_p84 : lw_okq (⟨"LuckyTicketModel", "asksWorn", "(IZ)I"⟩, 33) := ⟨⟨by decide +kernel, by decide +kernel⟩, List.mem_of_getElem? (i := 1021) (by decide +kernel), List.mem_of_getElem? (i := 1493) (by decide +kernel), List.mem_of_getElem? (i := 1494) (by decide +kernel)⟩
theorem lw_p85 : lw_okq (⟨"LuckyTicketModel", "isTold", "(II)Z"⟩, 33) := ⟨⟨by decide +kernel, by decide +kernel⟩, List.mem_of_getElem? (i := 1021) (by decide +kernel), List.mem_of_getElem? (i := 1500) (by decide +kernel), List.mem_of_getElem? (i := 1501) (by decide +kernel)⟩
theorem lw_p86 : lw_okq (⟨"LuckyTicketModel", "canBe", "(II)Z"⟩, 33) := ⟨⟨by decide +kernel, by decide +kernel⟩, List.mem_of_getElem? (i := 1021) (by decide +kernel), List.mem_of_getElem? (i := 1504) (by decide +kernel), List.mem_of_getElem? (i := 1505) (by decide +kernel)⟩
theorem lw_p87 : lw_okq (⟨"LuckyTicketModel", "mendedOf", "(II)I"⟩, 33) := ⟨⟨by decide +kernel, by decide +kernel⟩, List.mem_of_getElem? (i := 1021) (by decide +kernel), List.mem_of_getElem? (i := 1516) (by decide +kernel), List.mem_of_getElem? (i := 1517) (by decide +kernel)⟩
theorem lw_p88 : lw_okq (⟨"LuckyTicketModel", "farFrom", "(II)I"⟩, 33) := ⟨⟨by decide +kernel, by decide +kernel⟩, List.mem_of_getElem? (i := 1021) (by decide +kernel), List.mem_of_getElem? (i := 1520) (by decide +kernel), List.mem_of_getElem? (i := 1521) (by decide +kernel)⟩
theorem lw_p89 : lw_okq (⟨"LuckyTicketModel", "draw", "(I)I"⟩, 33) := ⟨⟨by decide +kernel, by decide +kernel⟩, List.mem_of_getElem? (i := 1021) (by decide +kernel), List.mem_of_getElem? (i := 1544) (by decide +kernel), List.mem_of_getElem? (i := 1545) (by decide +kernel)⟩
theorem lw_p90 : lw_okq (⟨"LuckyTicketModel", "isSale", "(III)Z"⟩, 33) := ⟨⟨by decide +kernel, by decide +kernel⟩, List.mem_of_getElem? (i := 1021) (by decide +kernel), List.mem_of_getElem? (i := 1556) (by decide +kernel), List.mem_of_getElem? (i := 1557) (by decide +kernel)⟩
theorem lw_p91 : lw_okq (⟨"LuckyTicketModel", "asksRow", "(II)I"⟩, 33) := ⟨⟨by decide +kernel, by decide +kernel⟩, List.mem_of_getElem? (i := 1021) (by decide +kernel), List.mem_of_getElem? (i := 1581) (by decide +kernel), List.mem_of_getElem? (i := 1582) (by decide +kernel)⟩
theorem lw_p92 : lw_okq (⟨"LuckyTicketModel", "isLuckyAt", "(III)Z"⟩, 33) := ⟨⟨by decide +kernel, by decide +kernel⟩, List.mem_of_getElem? (i := 1021) (by decide +kernel), List.mem_of_getElem? (i := 1585) (by decide +kernel), List.mem_of_getElem? (i := 1586) (by decide +kernel)⟩
theorem lw_p93 : lw_okq (⟨"LuckyTicketModel", "figuresAt", "(III)I"⟩, 33) := ⟨⟨by decide +kernel, by decide +kernel⟩, List.mem_of_getElem? (i := 1021) (by decide +kernel), List.mem_of_getElem? (i := 1614) (by decide +kernel), List.mem_of_getElem? (i := 1615) (by decide +kernel)⟩
theorem lw_p94 : lw_okq (⟨"LuckyTicketModel", "isSame", "()Z"⟩, 33) := ⟨⟨by decide +kernel, by decide +kernel⟩, List.mem_of_getElem? (i := 1021) (by decide +kernel), List.mem_of_getElem? (i := 1626) (by decide +kernel), List.mem_of_getElem? (i := 1627) (by decide +kernel)⟩
theorem lw_p95 : lw_okq (⟨"LuckyTicketModel", "nowhere", "()V"⟩, 33) := ⟨⟨by decide +kernel, by decide +kernel⟩, List.mem_of_getElem? (i := 1021) (by decide +kernel), List.mem_of_getElem? (i := 1634) (by decide +kernel), List.mem_of_getElem? (i := 1635) (by decide +kernel)⟩
def lw_privs_6 : List (MethodName × Nat) := [(⟨"LuckyTicketModel", "hitsOf", "(IIII)I"⟩, 33), (⟨"LuckyTicketModel", "isSet", "(I)Z"⟩, 33), (⟨"LuckyTicketModel", "isRoll", "()Z"⟩, 33), (⟨"LuckyTicketModel", "differOf", "(II)I"⟩, 33), (⟨"LuckyTicketModel", "asksWorn", "(IZ)I"⟩, 33), (⟨"LuckyTicketModel", "isTold", "(II)Z"⟩, 33), (⟨"LuckyTicketModel", "canBe", "(II)Z"⟩, 33), (⟨"LuckyTicketModel", "mendedOf", "(II)I"⟩, 33), (⟨"LuckyTicketModel", "farFrom", "(II)I"⟩, 33), (⟨"LuckyTicketModel", "draw", "(I)I"⟩, 33), (⟨"LuckyTicketModel", "isSale", "(III)Z"⟩, 33), (⟨"LuckyTicketModel", "asksRow", "(II)I"⟩, 33), (⟨"LuckyTicketModel", "isLuckyAt", "(III)Z"⟩, 33), (⟨"LuckyTicketModel", "figuresAt", "(III)I"⟩, 33), (⟨"LuckyTicketModel", "isSame", "()Z"⟩, 33), (⟨"LuckyTicketModel", "nowhere", "()V"⟩, 33)]
theorem lw_r6 : ∀ q ∈ lw_privs_6, lw_okq q := List.forall_mem_cons.mpr ⟨lw_p80, List.forall_mem_cons.mpr ⟨lw_p81, List.forall_mem_cons.mpr ⟨lw_p82, List.forall_mem_cons.mpr ⟨lw_p83, List.forall_mem_cons.mpr ⟨lw_p84, List.forall_mem_cons.mpr ⟨lw_p85, List.forall_mem_cons.mpr ⟨lw_p86, List.forall_mem_cons.mpr ⟨lw_p87, List.forall_mem_cons.mpr ⟨lw_p88, List.forall_mem_cons.mpr ⟨lw_p89, List.forall_mem_cons.mpr ⟨lw_p90, List.forall_mem_cons.mpr ⟨lw_p91, List.forall_mem_cons.mpr ⟨lw_p92, List.forall_mem_cons.mpr ⟨lw_p93, List.forall_mem_cons.mpr ⟨lw_p94, List.forall_mem_cons.mpr ⟨lw_p95, fun _ h => absurd h List.not_mem_nil⟩⟩⟩⟩⟩⟩⟩⟩⟩⟩⟩⟩⟩⟩⟩⟩
theorem lw_p96 : lw_okq (⟨"LuckyTicketModel", "walksFrom", "(II)I"⟩, 33) := ⟨⟨by decide +kernel, by decide +kernel⟩, List.mem_of_getElem? (i := 1021) (by decide +kernel), List.mem_of_getElem? (i := 1638) (by decide +kernel), List.mem_of_getElem? (i := 1639) (by decide +kernel)⟩
theorem lw_p97 : lw_okq (⟨"LuckyTicketModel", "dateOf", "(I)I"⟩, 33) := ⟨⟨by decide +kernel, by decide +kernel⟩, List.mem_of_getElem? (i := 1021) (by decide +kernel), List.mem_of_getElem? (i := 1654) (by decide +kernel), List.mem_of_getElem? (i := 1655) (by decide +kernel)⟩
theorem lw_p98 : lw_okq (⟨"LuckyTicketModel", "fillWays", "(III)V"⟩, 33) := ⟨⟨by decide +kernel, by decide +kernel⟩, List.mem_of_getElem? (i := 1021) (by decide +kernel), List.mem_of_getElem? (i := 1679) (by decide +kernel), List.mem_of_getElem? (i := 1680) (by decide +kernel)⟩
def lw_privs_7 : List (MethodName × Nat) := [(⟨"LuckyTicketModel", "walksFrom", "(II)I"⟩, 33), (⟨"LuckyTicketModel", "dateOf", "(I)I"⟩, 33), (⟨"LuckyTicketModel", "fillWays", "(III)V"⟩, 33)]
theorem lw_r7 : ∀ q ∈ lw_privs_7, lw_okq q := List.forall_mem_cons.mpr ⟨lw_p96, List.forall_mem_cons.mpr ⟨lw_p97, List.forall_mem_cons.mpr ⟨lw_p98, fun _ h => absurd h List.not_mem_nil⟩⟩⟩
def lw_privs : List (MethodName × Nat) := lw_privs_1 ++ (lw_privs_2 ++ (lw_privs_3 ++ (lw_privs_4 ++ (lw_privs_5 ++ (lw_privs_6 ++ (lw_privs_7))))))
def lw_tbl : List Cond := k2_sels lw_privs ++ tables_1
theorem lw_privs_ok : ∀ q ∈ lw_privs, lw_okq q := by
  show ∀ q ∈ lw_privs_1 ++ (lw_privs_2 ++ (lw_privs_3 ++ (lw_privs_4 ++ (lw_privs_5 ++ (lw_privs_6 ++ (lw_privs_7)))))), lw_okq q
  exact List.forall_mem_append.mpr ⟨lw_r1, List.forall_mem_append.mpr ⟨lw_r2, List.forall_mem_append.mpr ⟨lw_r3, List.forall_mem_append.mpr ⟨lw_r4, List.forall_mem_append.mpr ⟨lw_r5, List.forall_mem_append.mpr ⟨lw_r6, lw_r7⟩⟩⟩⟩⟩⟩
end
section
/-! ===== BEGIN words of one list among another's, by their places ===== -/
theorem goodIn_r {big : List Cond} (ws : List Cond) (ps : List Nat) (hp : ws = ps.filterMap (fun i => big[i]?)) (h : ws.all goodWord = true) : GoodIn big ws := by
  intro w hw
  have h1 := List.all_eq_true.mp h w hw
  rw [hp] at hw
  obtain ⟨i, -, hi⟩ := List.mem_filterMap.mp hw
  have hm : w ∈ big := by first | exact List.mem_of_getElem? hi | exact List.getElem?_mem hi
  exact ⟨hm, good_of_word h1⟩
theorem goodIn_app {big a b : List Cond} (ha : GoodIn big a) (hb : GoodIn big b) : GoodIn big (a ++ b) := fun w h => (List.mem_append.mp h).elim (ha w) (hb w)
theorem goodIn_ca {big a b : List Cond} {c : Cond} (ha : GoodIn big (c :: a)) (hb : GoodIn big b) : GoodIn big (c :: (a ++ b)) := fun w h => (List.mem_cons.mp h).elim (fun e => ha w (List.mem_cons.mpr (Or.inl e))) (fun h => (List.mem_append.mp h).elim (fun h => ha w (List.mem_cons.mpr (Or.inr h))) (hb w))
theorem goodIn_sub {big ws : List Cond} (hm : ∀ w ∈ ws, w ∈ big) (h : ws.all goodWord = true) : GoodIn big ws := fun w hw => ⟨hm w hw, good_of_word (List.all_eq_true.mp h w hw)⟩
/-! ===== END ===== -/

/-! ===== BEGIN printed: names, fields, word lists, decode rows ===== -/
def RX0 : String := "LuckyTicket$Figures"
def TX0 : u_T := fun k => match k with
  | _ => ("", "", "", false)
def tyX0 : Nat → FieldType := fun k => match k with
  | _ => .int
abbrev wsX00 : List Cond := u_ws RX0 TX0 0
theorem nmX0 : ∀ a, a < 0 → ∀ b, b < 0 → a ≠ b → (TX0 a).2.1 ≠ (TX0 b).2.1 := by decide +kernel
theorem tyX0_ok : ∀ k, k < 0 → parseFieldDescriptor (TX0 k).2.2.1 = some (tyX0 k) := by decide +kernel
abbrev cX0_maskAt : ByteArray := prog_2_method_2_code
def yX0_maskAt : MethodName := ⟨RX0, "maskAt", "(II)J"⟩
abbrev cX0_figureTold : ByteArray := prog_2_method_3_code
def yX0_figureTold : MethodName := ⟨RX0, "figureTold", "(IIJ)J"⟩
abbrev cX0_figureAt : ByteArray := prog_2_method_4_code
def yX0_figureAt : MethodName := ⟨RX0, "figureAt", "(JII)I"⟩
abbrev cX0_firstHalf : ByteArray := prog_2_method_5_code
def yX0_firstHalf : MethodName := ⟨RX0, "firstHalf", "(I)J"⟩
abbrev cX0_lastHalf : ByteArray := prog_2_method_6_code
def yX0_lastHalf : MethodName := ⟨RX0, "lastHalf", "(I)J"⟩
abbrev cX0_masks : ByteArray := prog_2_method_7_code
def yX0_masks : MethodName := ⟨RX0, "masks", "(III)J"⟩
abbrev cX0_everySecond : ByteArray := prog_2_method_8_code
def yX0_everySecond : MethodName := ⟨RX0, "everySecond", "(II)J"⟩
abbrev cX0_sumOf : ByteArray := prog_2_method_9_code
def yX0_sumOf : MethodName := ⟨RX0, "sumOf", "(J)I"⟩
abbrev cX0_changes : ByteArray := prog_2_method_10_code
def yX0_changes : MethodName := ⟨RX0, "changes", "(JJ)I"⟩
abbrev cX0_countsOf : ByteArray := prog_2_method_11_code
def yX0_countsOf : MethodName := ⟨RX0, "countsOf", "(JI)J"⟩
abbrev cX0_kindsOf : ByteArray := prog_2_method_12_code
def yX0_kindsOf : MethodName := ⟨RX0, "kindsOf", "(JI)I"⟩
abbrev cX0_isMirror : ByteArray := prog_2_method_13_code
def yX0_isMirror : MethodName := ⟨RX0, "isMirror", "(JI)Z"⟩
def RX1 : String := "LuckyTicket$Reader"
def TX1 : u_T := fun k => match k with
  | 0 => ("LuckyTicket$Reader", "tape", "LLuckyTicket$Tape;", true)
  | 1 => ("LuckyTicket$Reader", "script", "LLuckyTicket$Script;", true)
  | 2 => ("LuckyTicket$Reader", "fault", "I", false)
  | 3 => ("LuckyTicket$Reader", "faultPlace", "I", false)
  | 4 => ("LuckyTicket$Reader", "token", "I", false)
  | 5 => ("LuckyTicket$Reader", "start", "I", false)
  | 6 => ("LuckyTicket$Reader", "stop", "I", false)
  | 7 => ("LuckyTicket$Reader", "value", "I", false)
  | _ => ("LuckyTicket$Reader", "joins", "I", false)
def tyX1 : Nat → FieldType := fun k => match k with
  | 0 => .object "LuckyTicket$Tape"
  | 1 => .object "LuckyTicket$Script"
  | 2 => .int
  | 3 => .int
  | 4 => .int
  | 5 => .int
  | 6 => .int
  | 7 => .int
  | _ => .int
abbrev wsX10 : List Cond := u_ws RX1 TX1 9
theorem nmX1 : ∀ a, a < 9 → ∀ b, b < 9 → a ≠ b → (TX1 a).2.1 ≠ (TX1 b).2.1 := by decide +kernel
theorem tyX1_ok : ∀ k, k < 9 → parseFieldDescriptor (TX1 k).2.2.1 = some (tyX1 k) := by decide +kernel
abbrev cX1_init : ByteArray := prog_3_method_1_code
def yX1_init : MethodName := ⟨RX1, "<init>", "(LLuckyTicket$Tape;LLuckyTicket$Script;)V"⟩
abbrev cX1_readTape : ByteArray := prog_3_method_2_code
def yX1_readTape : MethodName := ⟨RX1, "readTape", "()V"⟩
abbrev cX1_readMeasures : ByteArray := prog_3_method_3_code
def yX1_readMeasures : MethodName := ⟨RX1, "readMeasures", "()V"⟩
abbrev cX1_greatestBase : ByteArray := prog_3_method_4_code
def yX1_greatestBase : MethodName := ⟨RX1, "greatestBase", "(I)I"⟩
abbrev cX1_passLawWord : ByteArray := prog_3_method_5_code
def yX1_passLawWord : MethodName := ⟨RX1, "passLawWord", "()V"⟩
abbrev cX1_readLaw : ByteArray := prog_3_method_6_code
def yX1_readLaw : MethodName := ⟨RX1, "readLaw", "(I)V"⟩
abbrev cX1_readPart : ByteArray := prog_3_method_7_code
def yX1_readPart : MethodName := ⟨RX1, "readPart", "(I)V"⟩
abbrev cX1_passJoin : ByteArray := prog_3_method_8_code
def yX1_passJoin : MethodName := ⟨RX1, "passJoin", "()V"⟩
abbrev cX1_readKind : ByteArray := prog_3_method_9_code
def yX1_readKind : MethodName := ⟨RX1, "readKind", "(I)V"⟩
abbrev cX1_addPlain : ByteArray := prog_3_method_10_code
def yX1_addPlain : MethodName := ⟨RX1, "addPlain", "(IJJ)V"⟩
abbrev cX1_readRest : ByteArray := prog_3_method_11_code
def yX1_readRest : MethodName := ⟨RX1, "readRest", "()V"⟩
abbrev cX1_readSide : ByteArray := prog_3_method_12_code
def yX1_readSide : MethodName := ⟨RX1, "readSide", "()J"⟩
abbrev cX1_refuse : ByteArray := prog_3_method_13_code
def yX1_refuse : MethodName := ⟨RX1, "refuse", "(I)V"⟩
abbrev cX1_passWord : ByteArray := prog_3_method_14_code
def yX1_passWord : MethodName := ⟨RX1, "passWord", "(Ljava/lang/String;)V"⟩
abbrev cX1_passSign : ByteArray := prog_3_method_15_code
def yX1_passSign : MethodName := ⟨RX1, "passSign", "(C)V"⟩
abbrev cX1_passNumber : ByteArray := prog_3_method_16_code
def yX1_passNumber : MethodName := ⟨RX1, "passNumber", "(II)I"⟩
abbrev cX1_isSign : ByteArray := prog_3_method_17_code
def yX1_isSign : MethodName := ⟨RX1, "isSign", "(C)Z"⟩
abbrev cX1_isWord : ByteArray := prog_3_method_18_code
def yX1_isWord : MethodName := ⟨RX1, "isWord", "(Ljava/lang/String;)Z"⟩
abbrev cX1_advance : ByteArray := prog_3_method_19_code
def yX1_advance : MethodName := ⟨RX1, "advance", "()V"⟩
def RX2 : String := "LuckyTicket$Roll"
def TX2 : u_T := fun k => match k with
  | 0 => ("LuckyTicket$Roll", "length", "I", false)
  | 1 => ("LuckyTicket$Roll", "base", "I", false)
  | 2 => ("LuckyTicket$Roll", "tickets", "I", false)
  | 3 => ("LuckyTicket$Roll", "laws", "I", false)
  | 4 => ("LuckyTicket$Roll", "lines", "I", false)
  | 5 => ("LuckyTicket$Roll", "faces", "[J", false)
  | _ => ("LuckyTicket$Roll", "luck", "[I", false)
def tyX2 : Nat → FieldType := fun k => match k with
  | 0 => .int
  | 1 => .int
  | 2 => .int
  | 3 => .int
  | 4 => .int
  | 5 => .array .long
  | _ => .array .int
abbrev wsX20 : List Cond := u_ws RX2 TX2 7
theorem nmX2 : ∀ a, a < 7 → ∀ b, b < 7 → a ≠ b → (TX2 a).2.1 ≠ (TX2 b).2.1 := by decide +kernel
theorem tyX2_ok : ∀ k, k < 7 → parseFieldDescriptor (TX2 k).2.2.1 = some (tyX2 k) := by decide +kernel
abbrev cX2_init : ByteArray := prog_4_method_1_code
def yX2_init : MethodName := ⟨RX2, "<init>", "()V"⟩
abbrev cX2_buildFrom : ByteArray := prog_4_method_2_code
def yX2_buildFrom : MethodName := ⟨RX2, "buildFrom", "(LLuckyTicket$Script;)V"⟩
abbrev cX2_copyFrom : ByteArray := prog_4_method_3_code
def yX2_copyFrom : MethodName := ⟨RX2, "copyFrom", "(LLuckyTicket$Roll;)V"⟩
abbrev cX2_makeRoom : ByteArray := prog_4_method_4_code
def yX2_makeRoom : MethodName := ⟨RX2, "makeRoom", "(I)V"⟩
abbrev cX2_stands : ByteArray := prog_4_method_5_code
def yX2_stands : MethodName := ⟨RX2, "stands", "()Z"⟩
abbrev cX2_lineCount : ByteArray := prog_4_method_6_code
def yX2_lineCount : MethodName := ⟨RX2, "lineCount", "()I"⟩
abbrev cX2_hasTicket : ByteArray := prog_4_method_7_code
def yX2_hasTicket : MethodName := ⟨RX2, "hasTicket", "(I)Z"⟩
abbrev cX2_hasLaw : ByteArray := prog_4_method_8_code
def yX2_hasLaw : MethodName := ⟨RX2, "hasLaw", "(I)Z"⟩
abbrev cX2_hasSet : ByteArray := prog_4_method_9_code
def yX2_hasSet : MethodName := ⟨RX2, "hasSet", "(I)Z"⟩
abbrev cX2_hasPlace : ByteArray := prog_4_method_10_code
def yX2_hasPlace : MethodName := ⟨RX2, "hasPlace", "(I)Z"⟩
abbrev cX2_hasFigure : ByteArray := prog_4_method_11_code
def yX2_hasFigure : MethodName := ⟨RX2, "hasFigure", "(J)Z"⟩
abbrev cX2_faceOf : ByteArray := prog_4_method_12_code
def yX2_faceOf : MethodName := ⟨RX2, "faceOf", "(I)J"⟩
abbrev cX2_luckOf : ByteArray := prog_4_method_13_code
def yX2_luckOf : MethodName := ⟨RX2, "luckOf", "(I)I"⟩
abbrev cX2_luckBit : ByteArray := prog_4_method_14_code
def yX2_luckBit : MethodName := ⟨RX2, "luckBit", "(II)I"⟩
abbrev cX2_isLucky : ByteArray := prog_4_method_15_code
def yX2_isLucky : MethodName := ⟨RX2, "isLucky", "(II)Z"⟩
abbrev cX2_isLuckyNumber : ByteArray := prog_4_method_16_code
def yX2_isLuckyNumber : MethodName := ⟨RX2, "isLuckyNumber", "(IJ)Z"⟩
abbrev cX2_total : ByteArray := prog_4_method_17_code
def yX2_total : MethodName := ⟨RX2, "total", "(I)I"⟩
abbrev cX2_totalByAny : ByteArray := prog_4_method_18_code
def yX2_totalByAny : MethodName := ⟨RX2, "totalByAny", "()I"⟩
abbrev cX2_tally : ByteArray := prog_4_method_19_code
def yX2_tally : MethodName := ⟨RX2, "tally", "(III)I"⟩
abbrev cX2_seekUp : ByteArray := prog_4_method_20_code
def yX2_seekUp : MethodName := ⟨RX2, "seekUp", "(II)I"⟩
abbrev cX2_seekDown : ByteArray := prog_4_method_21_code
def yX2_seekDown : MethodName := ⟨RX2, "seekDown", "(II)I"⟩
abbrev cX2_pick : ByteArray := prog_4_method_22_code
def yX2_pick : MethodName := ⟨RX2, "pick", "(II)I"⟩
abbrev cX2_onward : ByteArray := prog_4_method_23_code
def yX2_onward : MethodName := ⟨RX2, "onward", "(II)I"⟩
abbrev cX2_tallyBySteps : ByteArray := prog_4_method_24_code
def yX2_tallyBySteps : MethodName := ⟨RX2, "tallyBySteps", "(IIII)I"⟩
abbrev cX2_firstUnlike : ByteArray := prog_4_method_25_code
def yX2_firstUnlike : MethodName := ⟨RX2, "firstUnlike", "(II)I"⟩
abbrev cX2_isFitting : ByteArray := prog_4_method_26_code
def yX2_isFitting : MethodName := ⟨RX2, "isFitting", "(IIJJ)Z"⟩
abbrev cX2_tallyFitting : ByteArray := prog_4_method_27_code
def yX2_tallyFitting : MethodName := ⟨RX2, "tallyFitting", "(IJJ)I"⟩
abbrev cX2_firstFitting : ByteArray := prog_4_method_28_code
def yX2_firstFitting : MethodName := ⟨RX2, "firstFitting", "(IJJ)I"⟩
abbrev cX2_fewestChanges : ByteArray := prog_4_method_29_code
def yX2_fewestChanges : MethodName := ⟨RX2, "fewestChanges", "(II)I"⟩
def RX3 : String := "LuckyTicket$Row"
def TX3 : u_T := fun k => match k with
  | 0 => ("LuckyTicket$Row", "width", "I", false)
  | 1 => ("LuckyTicket$Row", "size", "I", false)
  | _ => ("LuckyTicket$Row", "numbers", "[J", true)
def tyX3 : Nat → FieldType := fun k => match k with
  | 0 => .int
  | 1 => .int
  | _ => .array .long
abbrev wsX30 : List Cond := u_ws RX3 TX3 3
theorem nmX3 : ∀ a, a < 3 → ∀ b, b < 3 → a ≠ b → (TX3 a).2.1 ≠ (TX3 b).2.1 := by decide +kernel
theorem tyX3_ok : ∀ k, k < 3 → parseFieldDescriptor (TX3 k).2.2.1 = some (tyX3 k) := by decide +kernel
abbrev cX3_init : ByteArray := prog_5_method_1_code
def yX3_init : MethodName := ⟨RX3, "<init>", "()V"⟩
abbrev cX3_stands : ByteArray := prog_5_method_2_code
def yX3_stands : MethodName := ⟨RX3, "stands", "()Z"⟩
abbrev cX3_begin : ByteArray := prog_5_method_3_code
def yX3_begin : MethodName := ⟨RX3, "begin", "(II)V"⟩
abbrev cX3_hasStretch : ByteArray := prog_5_method_4_code
def yX3_hasStretch : MethodName := ⟨RX3, "hasStretch", "(II)Z"⟩
abbrev cX3_numberAt : ByteArray := prog_5_method_5_code
def yX3_numberAt : MethodName := ⟨RX3, "numberAt", "(I)J"⟩
abbrev cX3_put : ByteArray := prog_5_method_6_code
def yX3_put : MethodName := ⟨RX3, "put", "(IJ)V"⟩
abbrev cX3_cut : ByteArray := prog_5_method_7_code
def yX3_cut : MethodName := ⟨RX3, "cut", "(J)J"⟩
abbrev cX3_take : ByteArray := prog_5_method_8_code
def yX3_take : MethodName := ⟨RX3, "take", "(ILLuckyTicket$Row;II)V"⟩
abbrev cX3_isNewAt : ByteArray := prog_5_method_9_code
def yX3_isNewAt : MethodName := ⟨RX3, "isNewAt", "(I)Z"⟩
def RX4 : String := "LuckyTicket$Script"
def TX4 : u_T := fun k => match k with
  | 0 => ("LuckyTicket$Script", "length", "I", false)
  | 1 => ("LuckyTicket$Script", "base", "I", false)
  | 2 => ("LuckyTicket$Script", "lines", "I", false)
  | 3 => ("LuckyTicket$Script", "laws", "I", false)
  | 4 => ("LuckyTicket$Script", "size", "I", false)
  | 5 => ("LuckyTicket$Script", "ends", "[I", true)
  | 6 => ("LuckyTicket$Script", "kinds", "[I", true)
  | 7 => ("LuckyTicket$Script", "ones", "[J", true)
  | _ => ("LuckyTicket$Script", "others", "[J", true)
def tyX4 : Nat → FieldType := fun k => match k with
  | 0 => .int
  | 1 => .int
  | 2 => .int
  | 3 => .int
  | 4 => .int
  | 5 => .array .int
  | 6 => .array .int
  | 7 => .array .long
  | _ => .array .long
abbrev wsX40 : List Cond := u_ws RX4 TX4 9
theorem nmX4 : ∀ a, a < 9 → ∀ b, b < 9 → a ≠ b → (TX4 a).2.1 ≠ (TX4 b).2.1 := by decide +kernel
theorem tyX4_ok : ∀ k, k < 9 → parseFieldDescriptor (TX4 k).2.2.1 = some (tyX4 k) := by decide +kernel
abbrev cX4_init : ByteArray := prog_6_method_1_code
def yX4_init : MethodName := ⟨RX4, "<init>", "()V"⟩
abbrev cX4_clear : ByteArray := prog_6_method_2_code
def yX4_clear : MethodName := ⟨RX4, "clear", "()V"⟩
abbrev cX4_add : ByteArray := prog_6_method_3_code
def yX4_add : MethodName := ⟨RX4, "add", "(IJJ)V"⟩
abbrev cX4_closeLaw : ByteArray := prog_6_method_4_code
def yX4_closeLaw : MethodName := ⟨RX4, "closeLaw", "()V"⟩
abbrev cX4_luckOf : ByteArray := prog_6_method_5_code
def yX4_luckOf : MethodName := ⟨RX4, "luckOf", "(J)I"⟩
abbrev cX4_holds : ByteArray := prog_6_method_6_code
def yX4_holds : MethodName := ⟨RX4, "holds", "(IIJII)Z"⟩
abbrev cX4_isSo : ByteArray := prog_6_method_7_code
def yX4_isSo : MethodName := ⟨RX4, "isSo", "(IJII)Z"⟩
abbrev cX4_isSquare : ByteArray := prog_6_method_8_code
def yX4_isSquare : MethodName := ⟨RX4, "isSquare", "(I)Z"⟩
def RX5 : String := "LuckyTicket$Search"
def TX5 : u_T := fun k => match k with
  | 0 => ("LuckyTicket$Search", "queue", "[I", false)
  | 1 => ("LuckyTicket$Search", "far", "[I", false)
  | _ => ("LuckyTicket$Search", "gone", "[B", false)
def tyX5 : Nat → FieldType := fun k => match k with
  | 0 => .array .int
  | 1 => .array .int
  | _ => .array .byte
abbrev wsX50 : List Cond := u_ws RX5 TX5 3
theorem nmX5 : ∀ a, a < 3 → ∀ b, b < 3 → a ≠ b → (TX5 a).2.1 ≠ (TX5 b).2.1 := by decide +kernel
theorem tyX5_ok : ∀ k, k < 3 → parseFieldDescriptor (TX5 k).2.2.1 = some (tyX5 k) := by decide +kernel
abbrev cX5_init : ByteArray := prog_7_method_1_code
def yX5_init : MethodName := ⟨RX5, "<init>", "()V"⟩
abbrev cX5_prepare : ByteArray := prog_7_method_2_code
def yX5_prepare : MethodName := ⟨RX5, "prepare", "(LLuckyTicket$Roll;)V"⟩
abbrev cX5_isReached : ByteArray := prog_7_method_3_code
def yX5_isReached : MethodName := ⟨RX5, "isReached", "(I)Z"⟩
abbrev cX5_changesTo : ByteArray := prog_7_method_4_code
def yX5_changesTo : MethodName := ⟨RX5, "changesTo", "(I)I"⟩
abbrev cX5_spread : ByteArray := prog_7_method_5_code
def yX5_spread : MethodName := ⟨RX5, "spread", "(LLuckyTicket$Roll;II)I"⟩
abbrev cX5_spreadAround : ByteArray := prog_7_method_6_code
def yX5_spreadAround : MethodName := ⟨RX5, "spreadAround", "(LLuckyTicket$Roll;III)I"⟩
abbrev cX5_spreadAlong : ByteArray := prog_7_method_7_code
def yX5_spreadAlong : MethodName := ⟨RX5, "spreadAlong", "(LLuckyTicket$Roll;IIIII)I"⟩
abbrev cX5_reach : ByteArray := prog_7_method_8_code
def yX5_reach : MethodName := ⟨RX5, "reach", "(III)I"⟩
def RX6 : String := "LuckyTicket$SumTable"
def TX6 : u_T := fun k => match k with
  | _ => ("LuckyTicket$SumTable", "ways", "[J", true)
def tyX6 : Nat → FieldType := fun k => match k with
  | _ => .array .long
abbrev wsX60 : List Cond := u_ws RX6 TX6 1
theorem nmX6 : ∀ a, a < 1 → ∀ b, b < 1 → a ≠ b → (TX6 a).2.1 ≠ (TX6 b).2.1 := by decide +kernel
theorem tyX6_ok : ∀ k, k < 1 → parseFieldDescriptor (TX6 k).2.2.1 = some (tyX6 k) := by decide +kernel
abbrev cX6_init : ByteArray := prog_8_method_1_code
def yX6_init : MethodName := ⟨RX6, "<init>", "()V"⟩
abbrev cX6_fill : ByteArray := prog_8_method_2_code
def yX6_fill : MethodName := ⟨RX6, "fill", "(II)V"⟩
abbrev cX6_addPlace : ByteArray := prog_8_method_3_code
def yX6_addPlace : MethodName := ⟨RX6, "addPlace", "(I)V"⟩
abbrev cX6_waysTo : ByteArray := prog_8_method_4_code
def yX6_waysTo : MethodName := ⟨RX6, "waysTo", "(I)J"⟩
def RX7 : String := "LuckyTicket$Tape"
def TX7 : u_T := fun k => match k with
  | 0 => ("LuckyTicket$Tape", "bytes", "[B", true)
  | _ => ("LuckyTicket$Tape", "size", "I", false)
def tyX7 : Nat → FieldType := fun k => match k with
  | 0 => .array .byte
  | _ => .int
abbrev wsX70 : List Cond := u_ws RX7 TX7 2
theorem nmX7 : ∀ a, a < 2 → ∀ b, b < 2 → a ≠ b → (TX7 a).2.1 ≠ (TX7 b).2.1 := by decide +kernel
theorem tyX7_ok : ∀ k, k < 2 → parseFieldDescriptor (TX7 k).2.2.1 = some (tyX7 k) := by decide +kernel
abbrev cX7_init : ByteArray := prog_9_method_1_code
def yX7_init : MethodName := ⟨RX7, "<init>", "()V"⟩
abbrev cX7_hasRoomFor : ByteArray := prog_9_method_2_code
def yX7_hasRoomFor : MethodName := ⟨RX7, "hasRoomFor", "(I)Z"⟩
abbrev cX7_append : ByteArray := prog_9_method_3_code
def yX7_append : MethodName := ⟨RX7, "append", "(I)V"⟩
def RX8 : String := "LuckyTicket$Year"
def TX8 : u_T := fun k => match k with
  | _ => ("", "", "", false)
def tyX8 : Nat → FieldType := fun k => match k with
  | _ => .int
abbrev wsX80 : List Cond := u_ws RX8 TX8 0
theorem nmX8 : ∀ a, a < 0 → ∀ b, b < 0 → a ≠ b → (TX8 a).2.1 ≠ (TX8 b).2.1 := by decide +kernel
theorem tyX8_ok : ∀ k, k < 0 → parseFieldDescriptor (TX8 k).2.2.1 = some (tyX8 k) := by decide +kernel
abbrev cX8_hasDay : ByteArray := prog_10_method_2_code
def yX8_hasDay : MethodName := ⟨RX8, "hasDay", "(I)Z"⟩
abbrev cX8_lengthOf : ByteArray := prog_10_method_3_code
def yX8_lengthOf : MethodName := ⟨RX8, "lengthOf", "(I)I"⟩
abbrev cX8_figuresOf : ByteArray := prog_10_method_4_code
def yX8_figuresOf : MethodName := ⟨RX8, "figuresOf", "(I)I"⟩
abbrev cX8_isLuckyDate : ByteArray := prog_10_method_5_code
def yX8_isLuckyDate : MethodName := ⟨RX8, "isLuckyDate", "(I)Z"⟩
def RX9 : String := "LuckyTicket"
def TX9 : u_T := fun k => match k with
  | 0 => ("LuckyTicket", "tape", "LLuckyTicket$Tape;", true)
  | 1 => ("LuckyTicket", "script", "LLuckyTicket$Script;", true)
  | 2 => ("LuckyTicket", "reader", "LLuckyTicket$Reader;", true)
  | 3 => ("LuckyTicket", "current", "LLuckyTicket$Roll;", true)
  | 4 => ("LuckyTicket", "images", "[LLuckyTicket$Roll;", true)
  | 5 => ("LuckyTicket", "imaged", "[Z", true)
  | 6 => ("LuckyTicket", "slots", "[LLuckyTicket$Row;", true)
  | 7 => ("LuckyTicket", "search", "LLuckyTicket$Search;", true)
  | 8 => ("LuckyTicket", "sumTable", "LLuckyTicket$SumTable;", true)
  | _ => ("LuckyTicket", "figureCounts", "[I", true)
def tyX9 : Nat → FieldType := fun k => match k with
  | 0 => .object "LuckyTicket$Tape"
  | 1 => .object "LuckyTicket$Script"
  | 2 => .object "LuckyTicket$Reader"
  | 3 => .object "LuckyTicket$Roll"
  | 4 => .array (.object "LuckyTicket$Roll")
  | 5 => .array .boolean
  | 6 => .array (.object "LuckyTicket$Row")
  | 7 => .object "LuckyTicket$Search"
  | 8 => .object "LuckyTicket$SumTable"
  | _ => .array .int
abbrev wsX90 : List Cond := u_ws RX9 TX9 10
theorem nmX9 : ∀ a, a < 10 → ∀ b, b < 10 → a ≠ b → (TX9 a).2.1 ≠ (TX9 b).2.1 := by decide +kernel
theorem tyX9_ok : ∀ k, k < 10 → parseFieldDescriptor (TX9 k).2.2.1 = some (tyX9 k) := by decide +kernel
abbrev cX9_init : ByteArray := prog_1_method_1_code
def yX9_init : MethodName := ⟨RX9, "<init>", "()V"⟩
abbrev cX9_feed : ByteArray := prog_1_method_2_code
def yX9_feed : MethodName := ⟨RX9, "feed", "(IIIII)I"⟩
abbrev cX9_end : ByteArray := prog_1_method_3_code
def yX9_end : MethodName := ⟨RX9, "end", "(I)I"⟩
abbrev cX9_roll : ByteArray := prog_1_method_4_code
def yX9_roll : MethodName := ⟨RX9, "roll", "()I"⟩
abbrev cX9_fault : ByteArray := prog_1_method_5_code
def yX9_fault : MethodName := ⟨RX9, "fault", "(I)I"⟩
abbrev cX9_figure : ByteArray := prog_1_method_6_code
def yX9_figure : MethodName := ⟨RX9, "figure", "(II)I"⟩
abbrev cX9_sums : ByteArray := prog_1_method_7_code
def yX9_sums : MethodName := ⟨RX9, "sums", "(II)I"⟩
abbrev cX9_lucky : ByteArray := prog_1_method_8_code
def yX9_lucky : MethodName := ⟨RX9, "lucky", "(II)I"⟩
abbrev cX9_laws : ByteArray := prog_1_method_9_code
def yX9_laws : MethodName := ⟨RX9, "laws", "(I)I"⟩
abbrev cX9_many : ByteArray := prog_1_method_10_code
def yX9_many : MethodName := ⟨RX9, "many", "(I)I"⟩
abbrev cX9_rank : ByteArray := prog_1_method_11_code
def yX9_rank : MethodName := ⟨RX9, "rank", "(II)I"⟩
abbrev cX9_next : ByteArray := prog_1_method_12_code
def yX9_next : MethodName := ⟨RX9, "next", "(II)I"⟩
abbrev cX9_last : ByteArray := prog_1_method_13_code
def yX9_last : MethodName := ⟨RX9, "last", "(II)I"⟩
abbrev cX9_nth : ByteArray := prog_1_method_14_code
def yX9_nth : MethodName := ⟨RX9, "nth", "(II)I"⟩
abbrev cX9_gap : ByteArray := prog_1_method_15_code
def yX9_gap : MethodName := ⟨RX9, "gap", "(II)I"⟩
abbrev cX9_waits : ByteArray := prog_1_method_16_code
def yX9_waits : MethodName := ⟨RX9, "waits", "(III)I"⟩
abbrev cX9_hits : ByteArray := prog_1_method_17_code
def yX9_hits : MethodName := ⟨RX9, "hits", "(IIII)I"⟩
abbrev cX9_steps : ByteArray := prog_1_method_18_code
def yX9_steps : MethodName := ⟨RX9, "steps", "(IIII)I"⟩
abbrev cX9_chance : ByteArray := prog_1_method_19_code
def yX9_chance : MethodName := ⟨RX9, "chance", "(II)I"⟩
abbrev cX9_share : ByteArray := prog_1_method_20_code
def yX9_share : MethodName := ⟨RX9, "share", "(II)I"⟩
abbrev cX9_whose : ByteArray := prog_1_method_21_code
def yX9_whose : MethodName := ⟨RX9, "whose", "(II)I"⟩
abbrev cX9_both : ByteArray := prog_1_method_22_code
def yX9_both : MethodName := ⟨RX9, "both", "(I)I"⟩
abbrev cX9_just : ByteArray := prog_1_method_23_code
def yX9_just : MethodName := ⟨RX9, "just", "(I)I"⟩
abbrev cX9_so : ByteArray := prog_1_method_24_code
def yX9_so : MethodName := ⟨RX9, "so", "(I)I"⟩
abbrev cX9_alike : ByteArray := prog_1_method_25_code
def yX9_alike : MethodName := ⟨RX9, "alike", "(II)I"⟩
abbrev cX9_differ : ByteArray := prog_1_method_26_code
def yX9_differ : MethodName := ⟨RX9, "differ", "(II)I"⟩
abbrev cX9_worn : ByteArray := prog_1_method_27_code
def yX9_worn : MethodName := ⟨RX9, "worn", "(III)I"⟩
abbrev cX9_likely : ByteArray := prog_1_method_28_code
def yX9_likely : MethodName := ⟨RX9, "likely", "(IIII)I"⟩
abbrev cX9_mend : ByteArray := prog_1_method_29_code
def yX9_mend : MethodName := ⟨RX9, "mend", "(II)I"⟩
abbrev cX9_mended : ByteArray := prog_1_method_30_code
def yX9_mended : MethodName := ⟨RX9, "mended", "(II)I"⟩
abbrev cX9_nearest : ByteArray := prog_1_method_31_code
def yX9_nearest : MethodName := ⟨RX9, "nearest", "(II)I"⟩
abbrev cX9_about : ByteArray := prog_1_method_32_code
def yX9_about : MethodName := ⟨RX9, "about", "(I)I"⟩
abbrev cX9_draw : ByteArray := prog_1_method_33_code
def yX9_draw : MethodName := ⟨RX9, "draw", "(II)I"⟩
abbrev cX9_sold : ByteArray := prog_1_method_34_code
def yX9_sold : MethodName := ⟨RX9, "sold", "(III)I"⟩
abbrev cX9_first : ByteArray := prog_1_method_35_code
def yX9_first : MethodName := ⟨RX9, "first", "(III)I"⟩
abbrev cX9_seldom : ByteArray := prog_1_method_36_code
def yX9_seldom : MethodName := ⟨RX9, "seldom", "(III)J"⟩
abbrev cX9_sets : ByteArray := prog_1_method_37_code
def yX9_sets : MethodName := ⟨RX9, "sets", "(I)J"⟩
abbrev cX9_judge : ByteArray := prog_1_method_38_code
def yX9_judge : MethodName := ⟨RX9, "judge", "(II)I"⟩
abbrev cX9_kept : ByteArray := prog_1_method_39_code
def yX9_kept : MethodName := ⟨RX9, "kept", "(II)I"⟩
abbrev cX9_between : ByteArray := prog_1_method_40_code
def yX9_between : MethodName := ⟨RX9, "between", "(III)I"⟩
abbrev cX9_run : ByteArray := prog_1_method_41_code
def yX9_run : MethodName := ⟨RX9, "run", "(II)I"⟩
abbrev cX9_window : ByteArray := prog_1_method_42_code
def yX9_window : MethodName := ⟨RX9, "window", "(III)I"⟩
abbrev cX9_have : ByteArray := prog_1_method_43_code
def yX9_have : MethodName := ⟨RX9, "have", "(II)I"⟩
abbrev cX9_at : ByteArray := prog_1_method_44_code
def yX9_at : MethodName := ⟨RX9, "at", "(III)I"⟩
abbrev cX9_mostly : ByteArray := prog_1_method_45_code
def yX9_mostly : MethodName := ⟨RX9, "mostly", "(II)I"⟩
abbrev cX9_same : ByteArray := prog_1_method_46_code
def yX9_same : MethodName := ⟨RX9, "same", "(III)I"⟩
abbrev cX9_walk : ByteArray := prog_1_method_47_code
def yX9_walk : MethodName := ⟨RX9, "walk", "(III)I"⟩
abbrev cX9_islands : ByteArray := prog_1_method_48_code
def yX9_islands : MethodName := ⟨RX9, "islands", "(II)I"⟩
abbrev cX9_date : ByteArray := prog_1_method_49_code
def yX9_date : MethodName := ⟨RX9, "date", "(I)I"⟩
abbrev cX9_days : ByteArray := prog_1_method_50_code
def yX9_days : MethodName := ⟨RX9, "days", "(I)I"⟩
abbrev cX9_month : ByteArray := prog_1_method_51_code
def yX9_month : MethodName := ⟨RX9, "month", "(I)I"⟩
abbrev cX9_of : ByteArray := prog_1_method_52_code
def yX9_of : MethodName := ⟨RX9, "of", "(III)J"⟩
abbrev cX9_halves : ByteArray := prog_1_method_53_code
def yX9_halves : MethodName := ⟨RX9, "halves", "(II)J"⟩
abbrev cX9_middle : ByteArray := prog_1_method_54_code
def yX9_middle : MethodName := ⟨RX9, "middle", "(II)J"⟩
abbrev cX9_most : ByteArray := prog_1_method_55_code
def yX9_most : MethodName := ⟨RX9, "most", "(II)I"⟩
abbrev cX9_dice : ByteArray := prog_1_method_56_code
def yX9_dice : MethodName := ⟨RX9, "dice", "(III)J"⟩
abbrev cX9_count : ByteArray := prog_1_method_57_code
def yX9_count : MethodName := ⟨RX9, "count", "(I)I"⟩
abbrev cX9_image : ByteArray := prog_1_method_58_code
def yX9_image : MethodName := ⟨RX9, "image", "(I)I"⟩
abbrev cX9_back : ByteArray := prog_1_method_59_code
def yX9_back : MethodName := ⟨RX9, "back", "(I)I"⟩
abbrev cX9_row : ByteArray := prog_1_method_60_code
def yX9_row : MethodName := ⟨RX9, "row", "(III)I"⟩
abbrev cX9_write : ByteArray := prog_1_method_61_code
def yX9_write : MethodName := ⟨RX9, "write", "(IIJ)I"⟩
abbrev cX9_paste : ByteArray := prog_1_method_62_code
def yX9_paste : MethodName := ⟨RX9, "paste", "(IIIII)I"⟩
abbrev cX9_isWithin : ByteArray := prog_1_method_63_code
def yX9_isWithin : MethodName := ⟨RX9, "isWithin", "(III)Z"⟩
abbrev cX9_isStep : ByteArray := prog_1_method_64_code
def yX9_isStep : MethodName := ⟨RX9, "isStep", "(I)Z"⟩
abbrev cX9_isLong : ByteArray := prog_1_method_65_code
def yX9_isLong : MethodName := ⟨RX9, "isLong", "(II)Z"⟩
abbrev cX9_hasBoth : ByteArray := prog_1_method_66_code
def yX9_hasBoth : MethodName := ⟨RX9, "hasBoth", "(II)Z"⟩
abbrev cX9_hasSlot : ByteArray := prog_1_method_67_code
def yX9_hasSlot : MethodName := ⟨RX9, "hasSlot", "(I)Z"⟩
abbrev cX9_standingSlots : ByteArray := prog_1_method_68_code
def yX9_standingSlots : MethodName := ⟨RX9, "standingSlots", "()I"⟩
abbrev cX9_power : ByteArray := prog_1_method_69_code
def yX9_power : MethodName := ⟨RX9, "power", "(II)I"⟩
abbrev cX9_lowestTerm : ByteArray := prog_1_method_70_code
def yX9_lowestTerm : MethodName := ⟨RX9, "lowestTerm", "(III)I"⟩
abbrev cX9_choices : ByteArray := prog_1_method_71_code
def yX9_choices : MethodName := ⟨RX9, "choices", "(II)J"⟩
abbrev cX9_stirred : ByteArray := prog_1_method_72_code
def yX9_stirred : MethodName := ⟨RX9, "stirred", "(J)J"⟩
abbrev cX9_drawOf : ByteArray := prog_1_method_73_code
def yX9_drawOf : MethodName := ⟨RX9, "drawOf", "(JI)I"⟩
abbrev cX9_refusalOfWorn : ByteArray := prog_1_method_74_code
def yX9_refusalOfWorn : MethodName := ⟨RX9, "refusalOfWorn", "(LLuckyTicket$Row;)I"⟩
abbrev cX9_gonePlaces : ByteArray := prog_1_method_75_code
def yX9_gonePlaces : MethodName := ⟨RX9, "gonePlaces", "(LLuckyTicket$Row;)I"⟩
abbrev cX9_knownPlaces : ByteArray := prog_1_method_76_code
def yX9_knownPlaces : MethodName := ⟨RX9, "knownPlaces", "(LLuckyTicket$Row;)J"⟩
abbrev cX9_knownFigures : ByteArray := prog_1_method_77_code
def yX9_knownFigures : MethodName := ⟨RX9, "knownFigures", "(LLuckyTicket$Row;)J"⟩
abbrev cX9_countFigures : ByteArray := prog_1_method_78_code
def yX9_countFigures : MethodName := ⟨RX9, "countFigures", "(II)V"⟩
abbrev cX9_countedFigure : ByteArray := prog_1_method_79_code
def yX9_countedFigure : MethodName := ⟨RX9, "countedFigure", "(I)I"⟩
def RX10 : String := "LuckyTicketModel"
def TX10 : u_T := fun k => match k with
  | 0 => ("LuckyTicketModel", "thrown", "I", false)
  | 1 => ("LuckyTicketModel", "world", "[I", true)
  | 2 => ("LuckyTicketModel", "images", "[I", true)
  | 3 => ("LuckyTicketModel", "hasImage", "[Z", true)
  | 4 => ("LuckyTicketModel", "luck", "[I", true)
  | 5 => ("LuckyTicketModel", "tape", "[B", true)
  | 6 => ("LuckyTicketModel", "taped", "I", false)
  | 7 => ("LuckyTicketModel", "five", "[I", true)
  | 8 => ("LuckyTicketModel", "size", "I", false)
  | 9 => ("LuckyTicketModel", "at", "I", false)
  | 10 => ("LuckyTicketModel", "from", "I", false)
  | 11 => ("LuckyTicketModel", "token", "I", false)
  | 12 => ("LuckyTicketModel", "value", "I", false)
  | 13 => ("LuckyTicketModel", "faultKind", "I", false)
  | 14 => ("LuckyTicketModel", "faultPlace", "I", false)
  | 15 => ("LuckyTicketModel", "fresh", "[I", true)
  | 16 => ("LuckyTicketModel", "waits", "[I", true)
  | 17 => ("LuckyTicketModel", "waiting", "I", false)
  | 18 => ("LuckyTicketModel", "open", "I", false)
  | 19 => ("LuckyTicketModel", "joined", "I", false)
  | 20 => ("LuckyTicketModel", "figures", "[I", true)
  | 21 => ("LuckyTicketModel", "pile", "[Z", true)
  | 22 => ("LuckyTicketModel", "drawn", "J", false)
  | 23 => ("LuckyTicketModel", "times", "[I", true)
  | 24 => ("LuckyTicketModel", "far", "[I", true)
  | 25 => ("LuckyTicketModel", "queue", "[I", true)
  | 26 => ("LuckyTicketModel", "months", "[I", true)
  | 27 => ("LuckyTicketModel", "ways", "[J", true)
  | 28 => ("LuckyTicketModel", "waysOn", "[J", true)
  | 29 => ("LuckyTicketModel", "many", "[I", true)
  | 30 => ("LuckyTicketModel", "width", "[I", true)
  | 31 => ("LuckyTicketModel", "numbers", "[J", true)
  | _ => ("LuckyTicketModel", "moving", "[J", true)
def tyX10 : Nat → FieldType := fun k => match k with
  | 0 => .int
  | 1 => .array .int
  | 2 => .array .int
  | 3 => .array .boolean
  | 4 => .array .int
  | 5 => .array .byte
  | 6 => .int
  | 7 => .array .int
  | 8 => .int
  | 9 => .int
  | 10 => .int
  | 11 => .int
  | 12 => .int
  | 13 => .int
  | 14 => .int
  | 15 => .array .int
  | 16 => .array .int
  | 17 => .int
  | 18 => .int
  | 19 => .int
  | 20 => .array .int
  | 21 => .array .boolean
  | 22 => .long
  | 23 => .array .int
  | 24 => .array .int
  | 25 => .array .int
  | 26 => .array .int
  | 27 => .array .long
  | 28 => .array .long
  | 29 => .array .int
  | 30 => .array .int
  | 31 => .array .long
  | _ => .array .long
abbrev wsX100 : List Cond := u_ws RX10 TX10 33
theorem nmX10 : ∀ a, a < 33 → ∀ b, b < 33 → a ≠ b → (TX10 a).2.1 ≠ (TX10 b).2.1 := by decide +kernel
theorem tyX10_ok : ∀ k, k < 33 → parseFieldDescriptor (TX10 k).2.2.1 = some (tyX10 k) := by decide +kernel
abbrev cX10_init : ByteArray := prog_12_method_1_code
def yX10_init : MethodName := ⟨RX10, "<init>", "()V"⟩
abbrev cX10_in : ByteArray := prog_12_method_3_code
def yX10_in : MethodName := ⟨RX10, "in", "(JJJ)Z"⟩
abbrev cX10_image : ByteArray := prog_12_method_4_code
def yX10_image : MethodName := ⟨RX10, "image", "(I)I"⟩
abbrev cX10_back : ByteArray := prog_12_method_5_code
def yX10_back : MethodName := ⟨RX10, "back", "(I)I"⟩
abbrev cX10_isRoll : ByteArray := prog_12_method_6_code
def yX10_isRoll : MethodName := ⟨RX10, "isRoll", "()Z"⟩
abbrev cX10_isLaw : ByteArray := prog_12_method_7_code
def yX10_isLaw : MethodName := ⟨RX10, "isLaw", "(I)Z"⟩
abbrev cX10_isTicket : ByteArray := prog_12_method_8_code
def yX10_isTicket : MethodName := ⟨RX10, "isTicket", "(J)Z"⟩
abbrev cX10_isPlace : ByteArray := prog_12_method_9_code
def yX10_isPlace : MethodName := ⟨RX10, "isPlace", "(I)Z"⟩
abbrev cX10_isBoth : ByteArray := prog_12_method_10_code
def yX10_isBoth : MethodName := ⟨RX10, "isBoth", "(II)Z"⟩
abbrev cX10_isLucky : ByteArray := prog_12_method_11_code
def yX10_isLucky : MethodName := ⟨RX10, "isLucky", "(II)Z"⟩
abbrev cX10_feed : ByteArray := prog_12_method_12_code
def yX10_feed : MethodName := ⟨RX10, "feed", "(IIIII)I"⟩
abbrev cX10_end : ByteArray := prog_12_method_13_code
def yX10_end : MethodName := ⟨RX10, "end", "(I)I"⟩
abbrev cX10_see : ByteArray := prog_12_method_14_code
def yX10_see : MethodName := ⟨RX10, "see", "(I)I"⟩
abbrev cX10_advance : ByteArray := prog_12_method_15_code
def yX10_advance : MethodName := ⟨RX10, "advance", "()V"⟩
abbrev cX10_good : ByteArray := prog_12_method_16_code
def yX10_good : MethodName := ⟨RX10, "good", "()Z"⟩
abbrev cX10_errs : ByteArray := prog_12_method_17_code
def yX10_errs : MethodName := ⟨RX10, "errs", "(I)V"⟩
abbrev cX10_is : ByteArray := prog_12_method_18_code
def yX10_is : MethodName := ⟨RX10, "is", "(Ljava/lang/String;)Z"⟩
abbrev cX10_takes : ByteArray := prog_12_method_19_code
def yX10_takes : MethodName := ⟨RX10, "takes", "(Ljava/lang/String;)Z"⟩
abbrev cX10_needs : ByteArray := prog_12_method_20_code
def yX10_needs : MethodName := ⟨RX10, "needs", "(Ljava/lang/String;)V"⟩
abbrev cX10_number : ByteArray := prog_12_method_21_code
def yX10_number : MethodName := ⟨RX10, "number", "(II)I"⟩
abbrev cX10_told : ByteArray := prog_12_method_22_code
def yX10_told : MethodName := ⟨RX10, "told", "(Ljava/lang/String;II)I"⟩
abbrev cX10_fault : ByteArray := prog_12_method_23_code
def yX10_fault : MethodName := ⟨RX10, "fault", "(I)I"⟩
abbrev cX10_step : ByteArray := prog_12_method_24_code
def yX10_step : MethodName := ⟨RX10, "step", "(III)V"⟩
abbrev cX10_waitsFor : ByteArray := prog_12_method_25_code
def yX10_waitsFor : MethodName := ⟨RX10, "waitsFor", "(I)Z"⟩
abbrev cX10_done : ByteArray := prog_12_method_26_code
def yX10_done : MethodName := ⟨RX10, "done", "()V"⟩
abbrev cX10_doneNots : ByteArray := prog_12_method_27_code
def yX10_doneNots : MethodName := ⟨RX10, "doneNots", "()V"⟩
abbrev cX10_doneJoins : ByteArray := prog_12_method_28_code
def yX10_doneJoins : MethodName := ⟨RX10, "doneJoins", "()V"⟩
abbrev cX10_side : ByteArray := prog_12_method_29_code
def yX10_side : MethodName := ⟨RX10, "side", "()I"⟩
abbrev cX10_readRest : ByteArray := prog_12_method_30_code
def yX10_readRest : MethodName := ⟨RX10, "readRest", "()V"⟩
abbrev cX10_readKind : ByteArray := prog_12_method_31_code
def yX10_readKind : MethodName := ⟨RX10, "readKind", "()V"⟩
abbrev cX10_opens : ByteArray := prog_12_method_32_code
def yX10_opens : MethodName := ⟨RX10, "opens", "(I)V"⟩
abbrev cX10_isOpen : ByteArray := prog_12_method_33_code
def yX10_isOpen : MethodName := ⟨RX10, "isOpen", "()Z"⟩
abbrev cX10_shuts : ByteArray := prog_12_method_34_code
def yX10_shuts : MethodName := ⟨RX10, "shuts", "()V"⟩
abbrev cX10_joins : ByteArray := prog_12_method_35_code
def yX10_joins : MethodName := ⟨RX10, "joins", "(I)V"⟩
abbrev cX10_readLaw : ByteArray := prog_12_method_36_code
def yX10_readLaw : MethodName := ⟨RX10, "readLaw", "()V"⟩
abbrev cX10_readRoll : ByteArray := prog_12_method_37_code
def yX10_readRoll : MethodName := ⟨RX10, "readRoll", "()V"⟩
abbrev cX10_powerOf : ByteArray := prog_12_method_38_code
def yX10_powerOf : MethodName := ⟨RX10, "powerOf", "(JI)J"⟩
abbrev cX10_readLine : ByteArray := prog_12_method_39_code
def yX10_readLine : MethodName := ⟨RX10, "readLine", "()V"⟩
abbrev cX10_roll : ByteArray := prog_12_method_40_code
def yX10_roll : MethodName := ⟨RX10, "roll", "()I"⟩
abbrev cX10_fillFigures : ByteArray := prog_12_method_41_code
def yX10_fillFigures : MethodName := ⟨RX10, "fillFigures", "(I)V"⟩
abbrev cX10_sumOf : ByteArray := prog_12_method_42_code
def yX10_sumOf : MethodName := ⟨RX10, "sumOf", "(I)I"⟩
abbrev cX10_all : ByteArray := prog_12_method_43_code
def yX10_all : MethodName := ⟨RX10, "all", "()I"⟩
abbrev cX10_firstHalf : ByteArray := prog_12_method_44_code
def yX10_firstHalf : MethodName := ⟨RX10, "firstHalf", "()I"⟩
abbrev cX10_lastHalf : ByteArray := prog_12_method_45_code
def yX10_lastHalf : MethodName := ⟨RX10, "lastHalf", "()I"⟩
abbrev cX10_evens : ByteArray := prog_12_method_46_code
def yX10_evens : MethodName := ⟨RX10, "evens", "()I"⟩
abbrev cX10_isMirror : ByteArray := prog_12_method_47_code
def yX10_isMirror : MethodName := ⟨RX10, "isMirror", "()Z"⟩
abbrev cX10_unlikeMany : ByteArray := prog_12_method_48_code
def yX10_unlikeMany : MethodName := ⟨RX10, "unlikeMany", "()I"⟩
abbrev cX10_isSquare : ByteArray := prog_12_method_49_code
def yX10_isSquare : MethodName := ⟨RX10, "isSquare", "(I)Z"⟩
abbrev cX10_holds : ByteArray := prog_12_method_50_code
def yX10_holds : MethodName := ⟨RX10, "holds", "(II)Z"⟩
abbrev cX10_isBy : ByteArray := prog_12_method_51_code
def yX10_isBy : MethodName := ⟨RX10, "isBy", "(II)Z"⟩
abbrev cX10_fillLuck : ByteArray := prog_12_method_52_code
def yX10_fillLuck : MethodName := ⟨RX10, "fillLuck", "()V"⟩
abbrev cX10_figure : ByteArray := prog_12_method_53_code
def yX10_figure : MethodName := ⟨RX10, "figure", "(II)I"⟩
abbrev cX10_sums : ByteArray := prog_12_method_54_code
def yX10_sums : MethodName := ⟨RX10, "sums", "(II)I"⟩
abbrev cX10_lucky : ByteArray := prog_12_method_55_code
def yX10_lucky : MethodName := ⟨RX10, "lucky", "(II)I"⟩
abbrev cX10_laws : ByteArray := prog_12_method_56_code
def yX10_laws : MethodName := ⟨RX10, "laws", "(I)I"⟩
abbrev cX10_rankOf : ByteArray := prog_12_method_57_code
def yX10_rankOf : MethodName := ⟨RX10, "rankOf", "(II)I"⟩
abbrev cX10_allOf : ByteArray := prog_12_method_58_code
def yX10_allOf : MethodName := ⟨RX10, "allOf", "(I)I"⟩
abbrev cX10_many : ByteArray := prog_12_method_59_code
def yX10_many : MethodName := ⟨RX10, "many", "(I)I"⟩
abbrev cX10_rank : ByteArray := prog_12_method_60_code
def yX10_rank : MethodName := ⟨RX10, "rank", "(II)I"⟩
abbrev cX10_nextOf : ByteArray := prog_12_method_61_code
def yX10_nextOf : MethodName := ⟨RX10, "nextOf", "(II)I"⟩
abbrev cX10_lastOf : ByteArray := prog_12_method_62_code
def yX10_lastOf : MethodName := ⟨RX10, "lastOf", "(II)I"⟩
abbrev cX10_next : ByteArray := prog_12_method_63_code
def yX10_next : MethodName := ⟨RX10, "next", "(II)I"⟩
abbrev cX10_last : ByteArray := prog_12_method_64_code
def yX10_last : MethodName := ⟨RX10, "last", "(II)I"⟩
abbrev cX10_nthOf : ByteArray := prog_12_method_65_code
def yX10_nthOf : MethodName := ⟨RX10, "nthOf", "(II)I"⟩
abbrev cX10_nth : ByteArray := prog_12_method_66_code
def yX10_nth : MethodName := ⟨RX10, "nth", "(II)I"⟩
abbrev cX10_gap : ByteArray := prog_12_method_67_code
def yX10_gap : MethodName := ⟨RX10, "gap", "(II)I"⟩
abbrev cX10_goesOn : ByteArray := prog_12_method_68_code
def yX10_goesOn : MethodName := ⟨RX10, "goesOn", "(II)I"⟩
abbrev cX10_isStep : ByteArray := prog_12_method_69_code
def yX10_isStep : MethodName := ⟨RX10, "isStep", "(I)Z"⟩
abbrev cX10_waits : ByteArray := prog_12_method_70_code
def yX10_waits : MethodName := ⟨RX10, "waits", "(III)I"⟩
abbrev cX10_hitsOf : ByteArray := prog_12_method_71_code
def yX10_hitsOf : MethodName := ⟨RX10, "hitsOf", "(IIII)I"⟩
abbrev cX10_hits : ByteArray := prog_12_method_72_code
def yX10_hits : MethodName := ⟨RX10, "hits", "(IIII)I"⟩
abbrev cX10_steps : ByteArray := prog_12_method_73_code
def yX10_steps : MethodName := ⟨RX10, "steps", "(IIII)I"⟩
abbrev cX10_divisor : ByteArray := prog_12_method_74_code
def yX10_divisor : MethodName := ⟨RX10, "divisor", "(II)I"⟩
abbrev cX10_part : ByteArray := prog_12_method_75_code
def yX10_part : MethodName := ⟨RX10, "part", "(III)I"⟩
abbrev cX10_chance : ByteArray := prog_12_method_76_code
def yX10_chance : MethodName := ⟨RX10, "chance", "(II)I"⟩
abbrev cX10_share : ByteArray := prog_12_method_77_code
def yX10_share : MethodName := ⟨RX10, "share", "(II)I"⟩
abbrev cX10_whose : ByteArray := prog_12_method_78_code
def yX10_whose : MethodName := ⟨RX10, "whose", "(II)I"⟩
abbrev cX10_isSet : ByteArray := prog_12_method_79_code
def yX10_isSet : MethodName := ⟨RX10, "isSet", "(I)Z"⟩
abbrev cX10_both : ByteArray := prog_12_method_80_code
def yX10_both : MethodName := ⟨RX10, "both", "(I)I"⟩
abbrev cX10_just : ByteArray := prog_12_method_81_code
def yX10_just : MethodName := ⟨RX10, "just", "(I)I"⟩
abbrev cX10_bits : ByteArray := prog_12_method_82_code
def yX10_bits : MethodName := ⟨RX10, "bits", "(I)I"⟩
abbrev cX10_so : ByteArray := prog_12_method_83_code
def yX10_so : MethodName := ⟨RX10, "so", "(I)I"⟩
abbrev cX10_differOf : ByteArray := prog_12_method_84_code
def yX10_differOf : MethodName := ⟨RX10, "differOf", "(II)I"⟩
abbrev cX10_alike : ByteArray := prog_12_method_85_code
def yX10_alike : MethodName := ⟨RX10, "alike", "(II)I"⟩
abbrev cX10_differ : ByteArray := prog_12_method_86_code
def yX10_differ : MethodName := ⟨RX10, "differ", "(II)I"⟩
abbrev cX10_asksWorn : ByteArray := prog_12_method_87_code
def yX10_asksWorn : MethodName := ⟨RX10, "asksWorn", "(IZ)I"⟩
abbrev cX10_isTold : ByteArray := prog_12_method_88_code
def yX10_isTold : MethodName := ⟨RX10, "isTold", "(II)Z"⟩
abbrev cX10_canBe : ByteArray := prog_12_method_89_code
def yX10_canBe : MethodName := ⟨RX10, "canBe", "(II)Z"⟩
abbrev cX10_worn : ByteArray := prog_12_method_90_code
def yX10_worn : MethodName := ⟨RX10, "worn", "(III)I"⟩
abbrev cX10_likely : ByteArray := prog_12_method_91_code
def yX10_likely : MethodName := ⟨RX10, "likely", "(IIII)I"⟩
abbrev cX10_farFrom : ByteArray := prog_12_method_92_code
def yX10_farFrom : MethodName := ⟨RX10, "farFrom", "(II)I"⟩
abbrev cX10_mendedOf : ByteArray := prog_12_method_93_code
def yX10_mendedOf : MethodName := ⟨RX10, "mendedOf", "(II)I"⟩
abbrev cX10_mend : ByteArray := prog_12_method_94_code
def yX10_mend : MethodName := ⟨RX10, "mend", "(II)I"⟩
abbrev cX10_mended : ByteArray := prog_12_method_95_code
def yX10_mended : MethodName := ⟨RX10, "mended", "(II)I"⟩
abbrev cX10_nearest : ByteArray := prog_12_method_96_code
def yX10_nearest : MethodName := ⟨RX10, "nearest", "(II)I"⟩
abbrev cX10_about : ByteArray := prog_12_method_97_code
def yX10_about : MethodName := ⟨RX10, "about", "(I)I"⟩
abbrev cX10_draw : ByteArray := prog_12_method_98_code
def yX10_draw : MethodName := ⟨RX10, "draw", "(I)I"⟩
abbrev cX10_isSeed : ByteArray := prog_12_method_99_code
def yX10_isSeed : MethodName := ⟨RX10, "isSeed", "(I)Z"⟩
abbrev cX10_draw_ : ByteArray := prog_12_method_100_code
def yX10_draw_ : MethodName := ⟨RX10, "draw", "(II)I"⟩
abbrev cX10_isSale : ByteArray := prog_12_method_101_code
def yX10_isSale : MethodName := ⟨RX10, "isSale", "(III)Z"⟩
abbrev cX10_sold : ByteArray := prog_12_method_102_code
def yX10_sold : MethodName := ⟨RX10, "sold", "(III)I"⟩
abbrev cX10_first : ByteArray := prog_12_method_103_code
def yX10_first : MethodName := ⟨RX10, "first", "(III)I"⟩
abbrev cX10_choose : ByteArray := prog_12_method_104_code
def yX10_choose : MethodName := ⟨RX10, "choose", "(JI)J"⟩
abbrev cX10_seldom : ByteArray := prog_12_method_105_code
def yX10_seldom : MethodName := ⟨RX10, "seldom", "(III)J"⟩
abbrev cX10_sets : ByteArray := prog_12_method_106_code
def yX10_sets : MethodName := ⟨RX10, "sets", "(I)J"⟩
abbrev cX10_asksRow : ByteArray := prog_12_method_107_code
def yX10_asksRow : MethodName := ⟨RX10, "asksRow", "(II)I"⟩
abbrev cX10_isLuckyAt : ByteArray := prog_12_method_108_code
def yX10_isLuckyAt : MethodName := ⟨RX10, "isLuckyAt", "(III)Z"⟩
abbrev cX10_judge : ByteArray := prog_12_method_109_code
def yX10_judge : MethodName := ⟨RX10, "judge", "(II)I"⟩
abbrev cX10_kept : ByteArray := prog_12_method_110_code
def yX10_kept : MethodName := ⟨RX10, "kept", "(II)I"⟩
abbrev cX10_between : ByteArray := prog_12_method_111_code
def yX10_between : MethodName := ⟨RX10, "between", "(III)I"⟩
abbrev cX10_run : ByteArray := prog_12_method_112_code
def yX10_run : MethodName := ⟨RX10, "run", "(II)I"⟩
abbrev cX10_window : ByteArray := prog_12_method_113_code
def yX10_window : MethodName := ⟨RX10, "window", "(III)I"⟩
abbrev cX10_have : ByteArray := prog_12_method_114_code
def yX10_have : MethodName := ⟨RX10, "have", "(II)I"⟩
abbrev cX10_figuresAt : ByteArray := prog_12_method_115_code
def yX10_figuresAt : MethodName := ⟨RX10, "figuresAt", "(III)I"⟩
abbrev cX10_at : ByteArray := prog_12_method_116_code
def yX10_at : MethodName := ⟨RX10, "at", "(III)I"⟩
abbrev cX10_mostly : ByteArray := prog_12_method_117_code
def yX10_mostly : MethodName := ⟨RX10, "mostly", "(II)I"⟩
abbrev cX10_isSame : ByteArray := prog_12_method_118_code
def yX10_isSame : MethodName := ⟨RX10, "isSame", "()Z"⟩
abbrev cX10_same : ByteArray := prog_12_method_119_code
def yX10_same : MethodName := ⟨RX10, "same", "(III)I"⟩
abbrev cX10_walksFrom : ByteArray := prog_12_method_120_code
def yX10_walksFrom : MethodName := ⟨RX10, "walksFrom", "(II)I"⟩
abbrev cX10_nowhere : ByteArray := prog_12_method_121_code
def yX10_nowhere : MethodName := ⟨RX10, "nowhere", "()V"⟩
abbrev cX10_walk : ByteArray := prog_12_method_122_code
def yX10_walk : MethodName := ⟨RX10, "walk", "(III)I"⟩
abbrev cX10_islands : ByteArray := prog_12_method_123_code
def yX10_islands : MethodName := ⟨RX10, "islands", "(II)I"⟩
abbrev cX10_isDay : ByteArray := prog_12_method_124_code
def yX10_isDay : MethodName := ⟨RX10, "isDay", "(I)Z"⟩
abbrev cX10_dateOf : ByteArray := prog_12_method_125_code
def yX10_dateOf : MethodName := ⟨RX10, "dateOf", "(I)I"⟩
abbrev cX10_date : ByteArray := prog_12_method_126_code
def yX10_date : MethodName := ⟨RX10, "date", "(I)I"⟩
abbrev cX10_isLuckyDate : ByteArray := prog_12_method_127_code
def yX10_isLuckyDate : MethodName := ⟨RX10, "isLuckyDate", "(I)Z"⟩
abbrev cX10_days : ByteArray := prog_12_method_128_code
def yX10_days : MethodName := ⟨RX10, "days", "(I)I"⟩
abbrev cX10_month : ByteArray := prog_12_method_129_code
def yX10_month : MethodName := ⟨RX10, "month", "(I)I"⟩
abbrev cX10_fillWays : ByteArray := prog_12_method_130_code
def yX10_fillWays : MethodName := ⟨RX10, "fillWays", "(III)V"⟩
abbrev cX10_isLong : ByteArray := prog_12_method_131_code
def yX10_isLong : MethodName := ⟨RX10, "isLong", "(II)Z"⟩
abbrev cX10_of : ByteArray := prog_12_method_132_code
def yX10_of : MethodName := ⟨RX10, "of", "(III)J"⟩
abbrev cX10_halves : ByteArray := prog_12_method_133_code
def yX10_halves : MethodName := ⟨RX10, "halves", "(II)J"⟩
abbrev cX10_middle : ByteArray := prog_12_method_134_code
def yX10_middle : MethodName := ⟨RX10, "middle", "(II)J"⟩
abbrev cX10_most : ByteArray := prog_12_method_135_code
def yX10_most : MethodName := ⟨RX10, "most", "(II)I"⟩
abbrev cX10_dice : ByteArray := prog_12_method_136_code
def yX10_dice : MethodName := ⟨RX10, "dice", "(III)J"⟩
abbrev cX10_count : ByteArray := prog_12_method_137_code
def yX10_count : MethodName := ⟨RX10, "count", "(I)I"⟩
abbrev cX10_isSlot : ByteArray := prog_12_method_138_code
def yX10_isSlot : MethodName := ⟨RX10, "isSlot", "(I)Z"⟩
abbrev cX10_cut : ByteArray := prog_12_method_139_code
def yX10_cut : MethodName := ⟨RX10, "cut", "(JI)J"⟩
abbrev cX10_row : ByteArray := prog_12_method_140_code
def yX10_row : MethodName := ⟨RX10, "row", "(III)I"⟩
abbrev cX10_write : ByteArray := prog_12_method_141_code
def yX10_write : MethodName := ⟨RX10, "write", "(IIJ)I"⟩
abbrev cX10_paste : ByteArray := prog_12_method_142_code
def yX10_paste : MethodName := ⟨RX10, "paste", "(IIIII)I"⟩
def RJx145de : String := "java/io/Serializable"
def TJx145de : u_T := fun k => match k with
  | _ => ("", "", "", false)
def tyJx145de : Nat → FieldType := fun k => match k with
  | _ => .int
abbrev wsJx145de0 : List Cond := u_ws RJx145de TJx145de 0
theorem nmJx145de : ∀ a, a < 0 → ∀ b, b < 0 → a ≠ b → (TJx145de a).2.1 ≠ (TJx145de b).2.1 := by decide +kernel
theorem tyJx145de_ok : ∀ k, k < 0 → parseFieldDescriptor (TJx145de k).2.2.1 = some (tyJx145de k) := by decide +kernel
def RJx9f9b0 : String := "java/lang/CharSequence"
def TJx9f9b0 : u_T := fun k => match k with
  | _ => ("", "", "", false)
def tyJx9f9b0 : Nat → FieldType := fun k => match k with
  | _ => .int
abbrev wsJx9f9b00 : List Cond := u_ws RJx9f9b0 TJx9f9b0 0
theorem nmJx9f9b0 : ∀ a, a < 0 → ∀ b, b < 0 → a ≠ b → (TJx9f9b0 a).2.1 ≠ (TJx9f9b0 b).2.1 := by decide +kernel
theorem tyJx9f9b0_ok : ∀ k, k < 0 → parseFieldDescriptor (TJx9f9b0 k).2.2.1 = some (tyJx9f9b0 k) := by decide +kernel
def RJxb160c : String := "java/lang/Comparable"
def TJxb160c : u_T := fun k => match k with
  | _ => ("", "", "", false)
def tyJxb160c : Nat → FieldType := fun k => match k with
  | _ => .int
abbrev wsJxb160c0 : List Cond := u_ws RJxb160c TJxb160c 0
theorem nmJxb160c : ∀ a, a < 0 → ∀ b, b < 0 → a ≠ b → (TJxb160c a).2.1 ≠ (TJxb160c b).2.1 := by decide +kernel
theorem tyJxb160c_ok : ∀ k, k < 0 → parseFieldDescriptor (TJxb160c k).2.2.1 = some (tyJxb160c k) := by decide +kernel
def RJ6 : String := "java/lang/Integer"
def TJ6 : u_T := fun k => match k with
  | _ => ("", "", "", false)
def tyJ6 : Nat → FieldType := fun k => match k with
  | _ => .int
abbrev wsJ60 : List Cond := u_ws RJ6 TJ6 0
theorem nmJ6 : ∀ a, a < 0 → ∀ b, b < 0 → a ≠ b → (TJ6 a).2.1 ≠ (TJ6 b).2.1 := by decide +kernel
theorem tyJ6_ok : ∀ k, k < 0 → parseFieldDescriptor (TJ6 k).2.2.1 = some (tyJ6 k) := by decide +kernel
abbrev cJ6_bitCount_0f7a4 : ByteArray := prog_13_method_49_code
def yJ6_bitCount_0f7a4 : MethodName := ⟨RJ6, "bitCount", "(I)I"⟩
def RJ13 : String := "java/lang/Long"
def TJ13 : u_T := fun k => match k with
  | _ => ("", "", "", false)
def tyJ13 : Nat → FieldType := fun k => match k with
  | _ => .int
abbrev wsJ130 : List Cond := u_ws RJ13 TJ13 0
theorem nmJ13 : ∀ a, a < 0 → ∀ b, b < 0 → a ≠ b → (TJ13 a).2.1 ≠ (TJ13 b).2.1 := by decide +kernel
theorem tyJ13_ok : ∀ k, k < 0 → parseFieldDescriptor (TJ13 k).2.2.1 = some (tyJ13 k) := by decide +kernel
abbrev cJ13_bitCount_95d88 : ByteArray := prog_14_method_50_code
def yJ13_bitCount_95d88 : MethodName := ⟨RJ13, "bitCount", "(J)I"⟩
def RJ9 : String := "java/lang/Math"
def TJ9 : u_T := fun k => match k with
  | _ => ("", "", "", false)
def tyJ9 : Nat → FieldType := fun k => match k with
  | _ => .int
abbrev wsJ90 : List Cond := u_ws RJ9 TJ9 0
theorem nmJ9 : ∀ a, a < 0 → ∀ b, b < 0 → a ≠ b → (TJ9 a).2.1 ≠ (TJ9 b).2.1 := by decide +kernel
theorem tyJ9_ok : ∀ k, k < 0 → parseFieldDescriptor (TJ9 k).2.2.1 = some (tyJ9 k) := by decide +kernel
abbrev cJ9_max_7cf53 : ByteArray := prog_15_method_65_code
def yJ9_max_7cf53 : MethodName := ⟨RJ9, "max", "(II)I"⟩
abbrev cJ9_min_7cf53 : ByteArray := prog_15_method_69_code
def yJ9_min_7cf53 : MethodName := ⟨RJ9, "min", "(II)I"⟩
def RJ0 : String := "java/lang/String"
def TJ0 : u_T := fun k => match k with
  | _ => ("", "", "", false)
def tyJ0 : Nat → FieldType := fun k => match k with
  | _ => .int
abbrev wsJ00 : List Cond := u_ws RJ0 TJ0 0
theorem nmJ0 : ∀ a, a < 0 → ∀ b, b < 0 → a ≠ b → (TJ0 a).2.1 ≠ (TJ0 b).2.1 := by decide +kernel
theorem tyJ0_ok : ∀ k, k < 0 → parseFieldDescriptor (TJ0 k).2.2.1 = some (tyJ0 k) := by decide +kernel
abbrev cJ0_length_8abf5 : ByteArray := prog_16_method_54_code
def yJ0_length_8abf5 : MethodName := ⟨RJ0, "length", "()I"⟩
abbrev cJ0_charAt_5068e : ByteArray := prog_16_method_56_code
def yJ0_charAt_5068e : MethodName := ⟨RJ0, "charAt", "(I)C"⟩
abbrev cJ0_coder_7d493 : ByteArray := prog_16_method_152_code
def yJ0_coder_7d493 : MethodName := ⟨RJ0, "coder", "()B"⟩
abbrev cJ0_isLatin1_aae02 : ByteArray := prog_16_method_154_code
def yJ0_isLatin1_aae02 : MethodName := ⟨RJ0, "isLatin1", "()Z"⟩
abbrev cJ0_checkIndex_df160 : ByteArray := prog_16_method_155_code
def yJ0_checkIndex_df160 : MethodName := ⟨RJ0, "checkIndex", "(II)V"⟩
def RJ1 : String := "java/lang/StringLatin1"
def TJ1 : u_T := fun k => match k with
  | _ => ("", "", "", false)
def tyJ1 : Nat → FieldType := fun k => match k with
  | _ => .int
abbrev wsJ10 : List Cond := u_ws RJ1 TJ1 0
theorem nmJ1 : ∀ a, a < 0 → ∀ b, b < 0 → a ≠ b → (TJ1 a).2.1 ≠ (TJ1 b).2.1 := by decide +kernel
theorem tyJ1_ok : ∀ k, k < 0 → parseFieldDescriptor (TJ1 k).2.2.1 = some (tyJ1 k) := by decide +kernel
abbrev cJ1_charAt_3b067 : ByteArray := prog_17_method_2_code
def yJ1_charAt_3b067 : MethodName := ⟨RJ1, "charAt", "([BI)C"⟩
def RJ2 : String := "java/lang/StringUTF16"
def TJ2 : u_T := fun k => match k with
  | _ => ("", "", "", false)
def tyJ2 : Nat → FieldType := fun k => match k with
  | _ => .int
abbrev wsJ20 : List Cond := u_ws RJ2 TJ2 0
theorem nmJ2 : ∀ a, a < 0 → ∀ b, b < 0 → a ≠ b → (TJ2 a).2.1 ≠ (TJ2 b).2.1 := by decide +kernel
theorem tyJ2_ok : ∀ k, k < 0 → parseFieldDescriptor (TJ2 k).2.2.1 = some (tyJ2 k) := by decide +kernel
abbrev cJ2_getChar_3b067 : ByteArray := prog_18_method_5_code
def yJ2_getChar_3b067 : MethodName := ⟨RJ2, "getChar", "([BI)C"⟩
abbrev cJ2_length_9d52b : ByteArray := prog_18_method_6_code
def yJ2_length_9d52b : MethodName := ⟨RJ2, "length", "([B)I"⟩
abbrev cJ2_charAt_3b067 : ByteArray := prog_18_method_83_code
def yJ2_charAt_3b067 : MethodName := ⟨RJ2, "charAt", "([BI)C"⟩
abbrev cJ2_checkIndex_2214a : ByteArray := prog_18_method_91_code
def yJ2_checkIndex_2214a : MethodName := ⟨RJ2, "checkIndex", "(I[B)V"⟩
def RJ10 : String := "java/lang/System"
def TJ10 : u_T := fun k => match k with
  | _ => ("", "", "", false)
def tyJ10 : Nat → FieldType := fun k => match k with
  | _ => .int
abbrev wsJ100 : List Cond := u_ws RJ10 TJ10 0
theorem nmJ10 : ∀ a, a < 0 → ∀ b, b < 0 → a ≠ b → (TJ10 a).2.1 ≠ (TJ10 b).2.1 := by decide +kernel
theorem tyJ10_ok : ∀ k, k < 0 → parseFieldDescriptor (TJ10 k).2.2.1 = some (tyJ10 k) := by decide +kernel
def RJxfd54e : String := "java/lang/constant/Constable"
def TJxfd54e : u_T := fun k => match k with
  | _ => ("", "", "", false)
def tyJxfd54e : Nat → FieldType := fun k => match k with
  | _ => .int
abbrev wsJxfd54e0 : List Cond := u_ws RJxfd54e TJxfd54e 0
theorem nmJxfd54e : ∀ a, a < 0 → ∀ b, b < 0 → a ≠ b → (TJxfd54e a).2.1 ≠ (TJxfd54e b).2.1 := by decide +kernel
theorem tyJxfd54e_ok : ∀ k, k < 0 → parseFieldDescriptor (TJxfd54e k).2.2.1 = some (tyJxfd54e k) := by decide +kernel
def RJx3cf43 : String := "java/lang/constant/ConstantDesc"
def TJx3cf43 : u_T := fun k => match k with
  | _ => ("", "", "", false)
def tyJx3cf43 : Nat → FieldType := fun k => match k with
  | _ => .int
abbrev wsJx3cf430 : List Cond := u_ws RJx3cf43 TJx3cf43 0
theorem nmJx3cf43 : ∀ a, a < 0 → ∀ b, b < 0 → a ≠ b → (TJx3cf43 a).2.1 ≠ (TJx3cf43 b).2.1 := by decide +kernel
theorem tyJx3cf43_ok : ∀ k, k < 0 → parseFieldDescriptor (TJx3cf43 k).2.2.1 = some (tyJx3cf43 k) := by decide +kernel
def RJ7 : String := "java/util/Arrays"
def TJ7 : u_T := fun k => match k with
  | _ => ("", "", "", false)
def tyJ7 : Nat → FieldType := fun k => match k with
  | _ => .int
abbrev wsJ70 : List Cond := u_ws RJ7 TJ7 0
theorem nmJ7 : ∀ a, a < 0 → ∀ b, b < 0 → a ≠ b → (TJ7 a).2.1 ≠ (TJ7 b).2.1 := by decide +kernel
theorem tyJ7_ok : ∀ k, k < 0 → parseFieldDescriptor (TJ7 k).2.2.1 = some (tyJ7 k) := by decide +kernel
abbrev cJ7_fill_d0a16 : ByteArray := prog_20_method_101_code
def yJ7_fill_d0a16 : MethodName := ⟨RJ7, "fill", "([JJ)V"⟩
abbrev cJ7_fill_53178 : ByteArray := prog_20_method_103_code
def yJ7_fill_53178 : MethodName := ⟨RJ7, "fill", "([II)V"⟩
abbrev cJ7_fill_031fb : ByteArray := prog_20_method_109_code
def yJ7_fill_031fb : MethodName := ⟨RJ7, "fill", "([BB)V"⟩
def RJ3 : String := "jdk/internal/util/Preconditions"
def TJ3 : u_T := fun k => match k with
  | _ => ("", "", "", false)
def tyJ3 : Nat → FieldType := fun k => match k with
  | _ => .int
abbrev wsJ30 : List Cond := u_ws RJ3 TJ3 0
theorem nmJ3 : ∀ a, a < 0 → ∀ b, b < 0 → a ≠ b → (TJ3 a).2.1 ≠ (TJ3 b).2.1 := by decide +kernel
theorem tyJ3_ok : ∀ k, k < 0 → parseFieldDescriptor (TJ3 k).2.2.1 = some (tyJ3 k) := by decide +kernel
abbrev cJ3_checkIndex_8e157 : ByteArray := prog_21_method_11_code
def yJ3_checkIndex_8e157 : MethodName := ⟨RJ3, "checkIndex", "(IILjava/util/function/BiFunction;)I"⟩
def RL : String := "LuckyTicketLaw"
abbrev cL_law : ByteArray := code
def yL_law : MethodName := ⟨RL, "law", "([I)Z"⟩
end
section
def nstL : List Cond := [.fieldLinkNest "LuckyTicket$Reader" 186 "LuckyTicket$Tape" "bytes" "[B" "LuckyTicket", .fieldLinkNest "LuckyTicket" 80 "LuckyTicket$Tape" "size" "I" "LuckyTicket", .fieldLinkNest "LuckyTicket$Reader" 194 "LuckyTicket$Tape" "size" "I" "LuckyTicket", .fieldLinkNest "LuckyTicket$Roll" 19 "LuckyTicket$Script" "length" "I" "LuckyTicket", .fieldLinkNest "LuckyTicket$Reader" 74 "LuckyTicket$Script" "length" "I" "LuckyTicket", .fieldLinkNest "LuckyTicket$Roll" 26 "LuckyTicket$Script" "base" "I" "LuckyTicket", .fieldLinkNest "LuckyTicket$Reader" 82 "LuckyTicket$Script" "base" "I" "LuckyTicket", .fieldLinkNest "LuckyTicket$Roll" 34 "LuckyTicket$Script" "lines" "I" "LuckyTicket", .fieldLinkNest "LuckyTicket$Reader" 42 "LuckyTicket$Script" "lines" "I" "LuckyTicket", .fieldLinkNest "LuckyTicket$Roll" 30 "LuckyTicket$Script" "laws" "I" "LuckyTicket", .fieldLinkNest "LuckyTicket$Reader" 93 "LuckyTicket$Script" "laws" "I" "LuckyTicket", .fieldLinkNest "LuckyTicket" 87 "LuckyTicket$Reader" "fault" "I" "LuckyTicket", .fieldLinkNest "LuckyTicket" 97 "LuckyTicket$Reader" "faultPlace" "I" "LuckyTicket", .fieldLinkNest "LuckyTicket$Search" 34 "LuckyTicket$Roll" "length" "I" "LuckyTicket", .fieldLinkNest "LuckyTicket" 110 "LuckyTicket$Roll" "length" "I" "LuckyTicket", .fieldLinkNest "LuckyTicket$Search" 56 "LuckyTicket$Roll" "base" "I" "LuckyTicket", .fieldLinkNest "LuckyTicket" 220 "LuckyTicket$Roll" "base" "I" "LuckyTicket", .fieldLinkNest "LuckyTicket$Search" 22 "LuckyTicket$Roll" "tickets" "I" "LuckyTicket", .fieldLinkNest "LuckyTicket" 155 "LuckyTicket$Roll" "tickets" "I" "LuckyTicket", .fieldLinkNest "LuckyTicket" 327 "LuckyTicket$Roll" "laws" "I" "LuckyTicket", .fieldLinkNest "LuckyTicket" 94 "LuckyTicket$Roll" "lines" "I" "LuckyTicket", .fieldLinkNest "LuckyTicket" 350 "LuckyTicket$Row" "width" "I" "LuckyTicket", .fieldLinkNest "LuckyTicket" 271 "LuckyTicket$Row" "size" "I" "LuckyTicket", .methodLinkNest "LuckyTicket" 9 ⟨"LuckyTicket$Tape", "<init>", "()V"⟩ "LuckyTicket", .methodLinkNest "LuckyTicket" 18 ⟨"LuckyTicket$Script", "<init>", "()V"⟩ "LuckyTicket", .methodLinkNest "LuckyTicket" 34 ⟨"LuckyTicket$Roll", "<init>", "()V"⟩ "LuckyTicket", .methodLinkNest "LuckyTicket" 49 ⟨"LuckyTicket$Row", "<init>", "()V"⟩ "LuckyTicket", .methodLinkNest "LuckyTicket" 56 ⟨"LuckyTicket$Search", "<init>", "()V"⟩ "LuckyTicket", .methodLinkNest "LuckyTicket" 63 ⟨"LuckyTicket$SumTable", "<init>", "()V"⟩ "LuckyTicket", .methodLinkNest "LuckyTicket$Reader" 84 ⟨"LuckyTicket", "power", "(II)I"⟩ "LuckyTicket", .methodLinkNest "LuckyTicket$Roll" 38 ⟨"LuckyTicket", "power", "(II)I"⟩ "LuckyTicket"]
def nst (U : State) : Prop := ∀ w ∈ nstL, va_Nw w U
def isNst : Cond → Bool
  | .fieldLinkNest .. => true
  | .methodLinkNest .. => true
  | _ => false
theorem nst_all : ∀ w ∈ nstL, isNst w = true := List.all_eq_true.mp (by decide +kernel)
theorem nst_w {w : Cond} (hi : isNst w = true) {s U : State} (hW : s.WarmedH U.vm) (h : va_Nw w s) : va_Nw w U := by
  cases w <;> first | exact va_Nw.warmF hW h | exact va_Nw.warmM hW h | cases hi
theorem nst_t {w : Cond} (hi : isNst w = true) : w.onTables = true := by
  cases w <;> first | rfl | cases hi
theorem nst.warm {s U : State} (hW : s.WarmedH U.vm) (h : nst s) : nst U := fun w hw => nst_w (nst_all w hw) hW (h w hw)
theorem nst.same {u U : State} (he : u.vm = U.vm) (h : nst u) : nst U := fun w hw => va_Nw.same (nst_t (nst_all w hw)) he (h w hw)
def pw (D : va_G) (cl : List vw_C) (ws : va_W) (tys : List (ClassId × FieldType)) (U : State) : Prop := va_P D cl ws U.heap ∧ va_K D cl tys U ∧ nst U
theorem pw_fb {av : List Value} {D : va_G} {cl : List vw_C} {ws : va_W} {tys : List (ClassId × FieldType)} : FrameBlind (va_Pc av (pw D cl ws tys)) := fun a U g mk q => by
  obtain ⟨q0, qP, qK, qN⟩ := q
  exact ⟨q0, qP, va_K.moved (u := U) (U := U.calling g mk a) (Vm.Alike.refl U.vm) qK, nst.same (u := U) (U := U.calling g mk a) rfl qN⟩
theorem pw_use {av : List Value} {D : va_G} {cl : List vw_C} {ws ws' : va_W} {tys tys' : List (ClassId × FieldType)} {s : State} {H : Heap} (hP : va_P D cl ws H) (hK : va_K D cl tys s) (hN : nst s) (is : List Nat) (hs : is.filterMap (fun i => ws[i]?) = ws') (it : List Nat) (ht : it.filterMap (fun i => tys[i]?) = tys') : ∀ U : State, U.heap = H → s.WarmedH U.vm → va_Pc av (pw D cl ws' tys') av.toArray U := fun U hU hW => ⟨rfl, by rw [hU]; exact hP.sub is hs, va_K.moved hW.alike (hK.sub it ht), hN.warm hW⟩
theorem pn_fb {av : List Value} : FrameBlind (va_Pc av (fun _ => True)) := fun a U g mk q => q
theorem pn_use {av : List Value} {s : State} {H : Heap} : ∀ U : State, U.heap = H → s.WarmedH U.vm → va_Pc av (fun _ => True) av.toArray U := fun U hU hW => ⟨rfl, trivial⟩
def hw (D : va_G) (cl : List vw_C) (ws : va_W) (tys : List (ClassId × FieldType)) (sz : Nat) (U : State) : Prop := U.heap.size = sz ∧ va_P D cl ws U.heap ∧ va_K D cl tys U ∧ va_D (fun _ => True) ws ∧ nst U
theorem hw_fb {av : List Value} {D : va_G} {cl : List vw_C} {ws : va_W} {tys : List (ClassId × FieldType)} {sz : Nat} : FrameBlind (va_Pc av (hw D cl ws tys sz)) := fun a U g mk q => by
  obtain ⟨q0, qs, qP, qK, qD, qN⟩ := q
  exact ⟨q0, qs, qP, va_K.moved (u := U) (U := U.calling g mk a) (Vm.Alike.refl U.vm) qK, qD, nst.same (u := U) (U := U.calling g mk a) rfl qN⟩
theorem hw_use {av : List Value} {D : va_G} {cl : List vw_C} {ws ws' : va_W} {tys tys' : List (ClassId × FieldType)} {s : State} {H : Heap} {A : Nat → Prop} (hP : va_P D cl ws H) (hD : va_D A ws) (hK : va_K D cl tys s) (hN : nst s) (is : List Nat) (hs : is.filterMap (fun i => ws[i]?) = ws') (hn : va_nd is = true) (hs2 : is.map (fun i => ws[i]?) = ws'.map some) (it : List Nat) (ht : it.filterMap (fun i => tys[i]?) = tys') : ∀ U : State, U.heap = H → s.WarmedH U.vm → va_Pc av (hw D cl ws' tys' H.size) av.toArray U := fun U hU hW => ⟨rfl, by rw [hU], by rw [hU]; exact hP.sub is hs, va_K.moved hW.alike (hK.sub it ht), (hD.sub is hn hs2).weaken (fun _ _ _ _ => trivial), hN.warm hW⟩
theorem vp_in_lit {i : Int32} {n : Nat} (h : (!(decide (i < 0)) && decide (i.toNatClampNeg < n)) = true) : vp_in i n := by
  simp only [Bool.and_eq_true, Bool.not_eq_true', decide_eq_false_iff_not, decide_eq_true_eq] at h
  exact fun q => q.elim h.1 (fun q => absurd h.2 (Nat.not_lt.mpr q))
theorem lel (a b : Nat) (h : Nat.ble a b = true) : a ≤ b := Nat.le_of_ble_eq_true h
theorem tb_0 {w : Cond} (h : w ∈ k2_sels lw_privs) : w ∈ lw_tbl := List.mem_append_left _ h
theorem tb_1 {w : Cond} (h : w ∈ tables_1_1) : w ∈ lw_tbl := List.mem_append_right _ (List.mem_append_left _ h)
theorem tb_2 {w : Cond} (h : w ∈ tables_1_2) : w ∈ lw_tbl := List.mem_append_right _ (List.mem_append_right _ (List.mem_append_left _ h))
theorem tb_3 {w : Cond} (h : w ∈ tables_1_3) : w ∈ lw_tbl := List.mem_append_right _ (List.mem_append_right _ (List.mem_append_right _ (List.mem_append_left _ h)))
theorem tb_4 {w : Cond} (h : w ∈ tables_1_4) : w ∈ lw_tbl := List.mem_append_right _ (List.mem_append_right _ (List.mem_append_right _ (List.mem_append_right _ (List.mem_append_left _ h))))
theorem tb_5 {w : Cond} (h : w ∈ tables_1_5) : w ∈ lw_tbl := List.mem_append_right _ (List.mem_append_right _ (List.mem_append_right _ (List.mem_append_right _ (List.mem_append_right _ (List.mem_append_left _ h)))))
theorem tb_6 {w : Cond} (h : w ∈ tables_1_6) : w ∈ lw_tbl := List.mem_append_right _ (List.mem_append_right _ (List.mem_append_right _ (List.mem_append_right _ (List.mem_append_right _ (List.mem_append_right _ (List.mem_append_left _ h))))))
theorem tb_7 {w : Cond} (h : w ∈ tables_1_7) : w ∈ lw_tbl := List.mem_append_right _ (List.mem_append_right _ (List.mem_append_right _ (List.mem_append_right _ (List.mem_append_right _ (List.mem_append_right _ (List.mem_append_right _ (List.mem_append_left _ h)))))))
theorem tb_8 {w : Cond} (h : w ∈ tables_1_8) : w ∈ lw_tbl := List.mem_append_right _ (List.mem_append_right _ (List.mem_append_right _ (List.mem_append_right _ (List.mem_append_right _ (List.mem_append_right _ (List.mem_append_right _ (List.mem_append_right _ h)))))))
abbrev vwCl : List vw_C := [(RX1, TX1, 9), (RX2, TX2, 7), (RX3, TX3, 3), (RX4, TX4, 9), (RX5, TX5, 3), (RX6, TX6, 1), (RX7, TX7, 2), (RX9, TX9, 10), (RX10, TX10, 33)]
theorem in_no (v : Int64) : ¬ (0 ≤ v ∧ v ≤ -1) := fun h => by
  have h1 := Int64.le_iff_toInt_le.mp h.1
  have h2 := Int64.le_iff_toInt_le.mp h.2
  have e1 : (0 : Int64).toInt = 0 := by decide
  have e2 : (-1 : Int64).toInt = -1 := by decide
  omega
theorem inX1 : ∀ w ∈ wsX10, w ∈ lw_tbl := by decide +kernel
theorem inX2 : ∀ w ∈ wsX20, w ∈ lw_tbl := by decide +kernel
theorem inX3 : ∀ w ∈ wsX30, w ∈ lw_tbl := by decide +kernel
theorem inX4 : ∀ w ∈ wsX40, w ∈ lw_tbl := by decide +kernel
theorem inX5 : ∀ w ∈ wsX50, w ∈ lw_tbl := by decide +kernel
theorem inX6 : ∀ w ∈ wsX60, w ∈ lw_tbl := by decide +kernel
theorem inX7 : ∀ w ∈ wsX70, w ∈ lw_tbl := by decide +kernel
theorem inX9 : ∀ w ∈ wsX90, w ∈ lw_tbl := by decide +kernel
theorem inX10 : ∀ w ∈ wsX100, w ∈ lw_tbl := by decide +kernel
end
section
theorem fa_nlt {x : Int32} (h : ¬ x < 0) : (0 : Int32) ≤ x := by
  rw [Int32.le_iff_toInt_le]; rw [Int32.lt_iff_toInt_lt] at h; omega
theorem fa_nle {x y : Int32} (h : ¬ x ≤ y) : y < x := by
  rw [Int32.lt_iff_toInt_lt]; rw [Int32.le_iff_toInt_le] at h; omega
theorem fa_nlt2 {x y : Int32} (h : ¬ x < y) : y ≤ x := by
  rw [Int32.le_iff_toInt_le]; rw [Int32.lt_iff_toInt_lt] at h; omega
theorem fa_not {x y : Int32} (h : x < y) : ¬ y ≤ x := by
  rw [Int32.le_iff_toInt_le]; rw [Int32.lt_iff_toInt_lt] at h; omega
def wi (n lo hi : Int32) : Int32 := if lo ≤ n ∧ n ≤ hi then 1 else 0
theorem wi_n (n lo hi : Int32) : narrow .boolean (.int (wi n lo hi)) = .int (wi n lo hi) := by
  unfold wi; split <;> rfl
theorem wi_1 {n lo hi : Int32} (h1 : ¬ n < lo) (h2 : ¬ hi < n) : (1 : Int32) = wi n lo hi := (if_pos ⟨fa_nlt2 h1, fa_nlt2 h2⟩).symm
theorem wi_a {n lo hi : Int32} (h1 : n < lo) : (0 : Int32) = wi n lo hi := (if_neg (fun h => fa_not h1 h.1)).symm
theorem wi_b {n lo hi : Int32} (h2 : hi < n) : (0 : Int32) = wi n lo hi := (if_neg (fun h => fa_not h2 h.2)).symm
theorem wi_yes {n lo hi : Int32} (h : ¬ wi n lo hi = 0) : lo ≤ n ∧ n ≤ hi := by
  by_cases q : lo ≤ n ∧ n ≤ hi
  · exact q
  · exact absurd (if_neg q) h
theorem wi_no {n lo hi : Int32} (h : wi n lo hi = 0) : ¬ (lo ≤ n ∧ n ≤ hi) := fun q => by
  have e : wi n lo hi = 1 := if_pos q
  rw [e] at h; exact absurd h (by decide)
theorem wi_nat {n : Int32} {hi : Int32} {k : Nat} (hk : hi.toInt = k) (h : ¬ wi n 0 hi = 0) : ∃ j : Nat, j ≤ k ∧ n = nI j := by
  have q := wi_yes h
  exact nI_of2 hk (fun c => fa_not c q.1) q.2
theorem wi_4 {a : Int32} (h : ¬ wi a 0 3 = 0) : a = 0 ∨ a = 1 ∨ a = 2 ∨ a = 3 := by
  obtain ⟨j, hj, rfl⟩ := wi_nat (k := 3) (by decide) h
  rcases (show j = 0 ∨ j = 1 ∨ j = 2 ∨ j = 3 by omega) with rfl | rfl | rfl | rfl
  · exact Or.inl rfl
  · exact Or.inr (Or.inl rfl)
  · exact Or.inr (Or.inr (Or.inl rfl))
  · exact Or.inr (Or.inr (Or.inr rfl))
def inr (v lo hi : Int64) : Int32 := if lo ≤ v ∧ v ≤ hi then 1 else 0
theorem inr_n (v lo hi : Int64) : narrow .boolean (.int (inr v lo hi)) = .int (inr v lo hi) := by
  unfold inr; split <;> rfl
theorem fb_nlt {x y : Int64} (h : ¬ x < y) : y ≤ x := by
  rw [Int64.le_iff_toInt_le]; rw [Int64.lt_iff_toInt_lt] at h; omega
theorem fb_not {x y : Int64} (h : x < y) : ¬ y ≤ x := by
  rw [Int64.le_iff_toInt_le]; rw [Int64.lt_iff_toInt_lt] at h; omega
theorem inr_1 {v lo hi : Int64} (h1 : ¬ lg_cmp v lo < 0) (h2 : ¬ 0 < lg_cmp v hi) : (1 : Int32) = inr v lo hi := (if_pos ⟨fb_nlt (fun c => h1 ((lg_cmp_lt v lo).mpr c)), fb_nlt (fun c => h2 ((lg_cmp_gt v hi).mpr c))⟩).symm
theorem inr_a {v lo hi : Int64} (h1 : lg_cmp v lo < 0) : (0 : Int32) = inr v lo hi := (if_neg (fun h => fb_not ((lg_cmp_lt v lo).mp h1) h.1)).symm
theorem inr_b {v lo hi : Int64} (h2 : 0 < lg_cmp v hi) : (0 : Int32) = inr v lo hi := (if_neg (fun h => fb_not ((lg_cmp_gt v hi).mp h2) h.2)).symm
theorem inr_no (v : Int64) : inr v 0 (-1) = 0 := if_neg (in_no v)
theorem le_wide (a b : Int32) : a.toInt64 ≤ b.toInt64 ↔ a ≤ b := by
  rw [Int64.le_iff_toInt_le, Int32.le_iff_toInt_le, Int32.toInt_toInt64, Int32.toInt_toInt64]
theorem inr_wi (a lo hi : Int32) : inr a.toInt64 lo.toInt64 hi.toInt64 = wi a lo hi := by
  unfold inr wi
  by_cases h : lo ≤ a ∧ a ≤ hi
  · rw [if_pos h, if_pos ⟨(le_wide _ _).mpr h.1, (le_wide _ _).mpr h.2⟩]
  · rw [if_neg h, if_neg (fun q => h ⟨(le_wide _ _).mp q.1, (le_wide _ _).mp q.2⟩)]
theorem dX2_hasTicket_0 : decode cX2_hasTicket 0 = .ok (.iload_n 1, 1) := by decide +kernel
theorem dX2_hasTicket_1 : decode cX2_hasTicket 1 = .ok (.ifCond .lt 15, 3) := by decide +kernel
theorem dX2_hasTicket_4 : decode cX2_hasTicket 4 = .ok (.iload_n 1, 1) := by decide +kernel
theorem dX2_hasTicket_5 : decode cX2_hasTicket 5 = .ok (.aload_n 0, 1) := by decide +kernel
theorem dX2_hasTicket_6 : decode cX2_hasTicket 6 = .ok (.getfield 42, 3) := by decide +kernel
theorem dX2_hasTicket_9 : decode cX2_hasTicket 9 = .ok (.if_icmp .ge 7, 3) := by decide +kernel
theorem dX2_hasTicket_16 : decode cX2_hasTicket 16 = .ok (.iconst 0, 1) := by decide +kernel
theorem dX2_hasTicket_17 : decode cX2_hasTicket 17 = .ok (.ireturn, 1) := by decide +kernel
def uX2_hasTicket : List Cond := .code yX2_hasTicket cX2_hasTicket 2 (some .boolean) :: ([.fieldLink RX2 42 "LuckyTicket$Roll" "tickets" "I"] ++ wsX20)
theorem iX2_hasTicket_X2 : ∀ w ∈ wsX20, w ∈ uX2_hasTicket := fun _ h => List.mem_cons_of_mem _ (List.mem_append_right _ h)
set_option maxHeartbeats 4000000 in
set_option maxRecDepth 100000 in
theorem kX2_hasTicket (l : Launch) (dC : Nat → ClassId) (dI : Nat → Nat → Nat) (cu : Nat) (fa : Nat) (lu : Nat) (a1 : Int32) : Met l yX2_hasTicket uX2_hasTicket ({ frames := 0, cells := 0, slots := 0, locals := 0 }) (va_Pc [.ref cu, .int a1] (pw (dC, dI) vwCl [(cu, .inr (1, [.int 0, .int 0, .int 0, .int 0, .int 0, .ref fa, .ref lu]))] [])) (vp_Si (fun r => r = 0)) 0 0 (fun _ => False) := by
  refine Met.ofW (cc := cX2_hasTicket) (maxL := 2) (ret := (some .boolean)) (by decide) rfl ?_
  intro p e s m args below meth c s₁ B hml hv
  obtain ⟨rfl, hP, hK, hN⟩ := hv
  have hx := B.exec
  have hb := B.bytes
  have hr := B.returns
  have hts := atoms_spec (ws := uX2_hasTicket) B.pre
  have hown : s.vm.findClass RX2 = some m.cls := findClass_of_methodNamed B.named
  have hlocks := B.notSynchronized
  have hl := lv_entry ([.ref cu, .int a1]) (n := 2) (Nat.le_of_ble_eq_true rfl)
  rw [lg_entry_eq]
  generalize (lg_sl ([.ref cu, .int a1]) ++ List.replicate (2 - (lg_sl ([.ref cu, .int a1])).length) Slot.unset).toArray = ls at hl ⊢
  have hl : lv_has ls 2 [(0, .ref cu), (1, .int a1)] := hl
  refine lv_iload_n hx hb dX2_hasTicket_0 rfl (lv_at hl 1 rfl) ?_
  refine lv_if_lt (tgt := 16) hx hb dX2_hasTicket_1 (by decide) (fun c_1 => ?_) (fun c_1 => ?_)
  ·
    refine lv_iconst (v := 0) hx hb dX2_hasTicket_16 (by decide) ?_
    exact W.zret (v := 0) hx hb hr rfl (fun t ht hW => ⟨0, rfl, rfl, ht⟩) t_nil dX2_hasTicket_17
  ·
    refine lv_iload_n hx hb dX2_hasTicket_4 rfl (lv_at hl 1 rfl) ?_
    refine lv_aload_n hx hb dX2_hasTicket_5 rfl (lv_at hl 0 rfl) ?_
    refine va_get (D := (dC, dI)) (ci := 1) (v := .int 0) (C := RX2) (T := TX2) (N := 7) hx hb hts iX2_hasTicket_X2 hown hK hP 0 rfl rfl 2 (by decide) (hts (.fieldLink RX2 42 "LuckyTicket$Roll" "tickets" "I") (List.mem_of_getElem? (i := 1) rfl)) (fun _ h9 => h9) rfl dX2_hasTicket_6 ?_
    refine lv_icmp_ge (tgt := 16) hx hb dX2_hasTicket_9 (by decide) (fun c_2 => ?_) (fun c_2 => absurd (fa_nlt c_1) c_2)
    refine lv_iconst (v := 0) hx hb dX2_hasTicket_16 (by decide) ?_
    exact W.zret (v := 0) hx hb hr rfl (fun t ht hW => ⟨0, rfl, rfl, ht⟩) t_nil dX2_hasTicket_17
theorem dX2_hasLaw_0 : decode cX2_hasLaw 0 = .ok (.iload_n 1, 1) := by decide +kernel
theorem dX2_hasLaw_1 : decode cX2_hasLaw 1 = .ok (.ifCond .lt 15, 3) := by decide +kernel
theorem dX2_hasLaw_4 : decode cX2_hasLaw 4 = .ok (.iload_n 1, 1) := by decide +kernel
theorem dX2_hasLaw_5 : decode cX2_hasLaw 5 = .ok (.aload_n 0, 1) := by decide +kernel
theorem dX2_hasLaw_6 : decode cX2_hasLaw 6 = .ok (.getfield 33, 3) := by decide +kernel
theorem dX2_hasLaw_9 : decode cX2_hasLaw 9 = .ok (.if_icmp .ge 7, 3) := by decide +kernel
theorem dX2_hasLaw_16 : decode cX2_hasLaw 16 = .ok (.iconst 0, 1) := by decide +kernel
theorem dX2_hasLaw_17 : decode cX2_hasLaw 17 = .ok (.ireturn, 1) := by decide +kernel
def uX2_hasLaw : List Cond := .code yX2_hasLaw cX2_hasLaw 2 (some .boolean) :: ([.fieldLink RX2 33 "LuckyTicket$Roll" "laws" "I"] ++ wsX20)
theorem iX2_hasLaw_X2 : ∀ w ∈ wsX20, w ∈ uX2_hasLaw := fun _ h => List.mem_cons_of_mem _ (List.mem_append_right _ h)
set_option maxHeartbeats 4000000 in
set_option maxRecDepth 100000 in
theorem kX2_hasLaw (l : Launch) (dC : Nat → ClassId) (dI : Nat → Nat → Nat) (cu : Nat) (fa : Nat) (lu : Nat) (a1 : Int32) : Met l yX2_hasLaw uX2_hasLaw ({ frames := 0, cells := 0, slots := 0, locals := 0 }) (va_Pc [.ref cu, .int a1] (pw (dC, dI) vwCl [(cu, .inr (1, [.int 0, .int 0, .int 0, .int 0, .int 0, .ref fa, .ref lu]))] [])) (vp_Si (fun r => r = 0)) 0 0 (fun _ => False) := by
  refine Met.ofW (cc := cX2_hasLaw) (maxL := 2) (ret := (some .boolean)) (by decide) rfl ?_
  intro p e s m args below meth c s₁ B hml hv
  obtain ⟨rfl, hP, hK, hN⟩ := hv
  have hx := B.exec
  have hb := B.bytes
  have hr := B.returns
  have hts := atoms_spec (ws := uX2_hasLaw) B.pre
  have hown : s.vm.findClass RX2 = some m.cls := findClass_of_methodNamed B.named
  have hlocks := B.notSynchronized
  have hl := lv_entry ([.ref cu, .int a1]) (n := 2) (Nat.le_of_ble_eq_true rfl)
  rw [lg_entry_eq]
  generalize (lg_sl ([.ref cu, .int a1]) ++ List.replicate (2 - (lg_sl ([.ref cu, .int a1])).length) Slot.unset).toArray = ls at hl ⊢
  have hl : lv_has ls 2 [(0, .ref cu), (1, .int a1)] := hl
  refine lv_iload_n hx hb dX2_hasLaw_0 rfl (lv_at hl 1 rfl) ?_
  refine lv_if_lt (tgt := 16) hx hb dX2_hasLaw_1 (by decide) (fun c_1 => ?_) (fun c_1 => ?_)
  ·
    refine lv_iconst (v := 0) hx hb dX2_hasLaw_16 (by decide) ?_
    exact W.zret (v := 0) hx hb hr rfl (fun t ht hW => ⟨0, rfl, rfl, ht⟩) t_nil dX2_hasLaw_17
  ·
    refine lv_iload_n hx hb dX2_hasLaw_4 rfl (lv_at hl 1 rfl) ?_
    refine lv_aload_n hx hb dX2_hasLaw_5 rfl (lv_at hl 0 rfl) ?_
    refine va_get (D := (dC, dI)) (ci := 1) (v := .int 0) (C := RX2) (T := TX2) (N := 7) hx hb hts iX2_hasLaw_X2 hown hK hP 0 rfl rfl 3 (by decide) (hts (.fieldLink RX2 33 "LuckyTicket$Roll" "laws" "I") (List.mem_of_getElem? (i := 1) rfl)) (fun _ h9 => h9) rfl dX2_hasLaw_6 ?_
    refine lv_icmp_ge (tgt := 16) hx hb dX2_hasLaw_9 (by decide) (fun c_2 => ?_) (fun c_2 => absurd (fa_nlt c_1) c_2)
    refine lv_iconst (v := 0) hx hb dX2_hasLaw_16 (by decide) ?_
    exact W.zret (v := 0) hx hb hr rfl (fun t ht hW => ⟨0, rfl, rfl, ht⟩) t_nil dX2_hasLaw_17
theorem dX2_hasPlace_0 : decode cX2_hasPlace 0 = .ok (.iload_n 1, 1) := by decide +kernel
theorem dX2_hasPlace_1 : decode cX2_hasPlace 1 = .ok (.ifCond .lt 15, 3) := by decide +kernel
theorem dX2_hasPlace_4 : decode cX2_hasPlace 4 = .ok (.iload_n 1, 1) := by decide +kernel
theorem dX2_hasPlace_5 : decode cX2_hasPlace 5 = .ok (.aload_n 0, 1) := by decide +kernel
theorem dX2_hasPlace_6 : decode cX2_hasPlace 6 = .ok (.getfield 25, 3) := by decide +kernel
theorem dX2_hasPlace_9 : decode cX2_hasPlace 9 = .ok (.if_icmp .ge 7, 3) := by decide +kernel
theorem dX2_hasPlace_16 : decode cX2_hasPlace 16 = .ok (.iconst 0, 1) := by decide +kernel
theorem dX2_hasPlace_17 : decode cX2_hasPlace 17 = .ok (.ireturn, 1) := by decide +kernel
def uX2_hasPlace : List Cond := .code yX2_hasPlace cX2_hasPlace 2 (some .boolean) :: ([.fieldLink RX2 25 "LuckyTicket$Roll" "length" "I"] ++ wsX20)
theorem iX2_hasPlace_X2 : ∀ w ∈ wsX20, w ∈ uX2_hasPlace := fun _ h => List.mem_cons_of_mem _ (List.mem_append_right _ h)
set_option maxHeartbeats 4000000 in
set_option maxRecDepth 100000 in
theorem kX2_hasPlace (l : Launch) (dC : Nat → ClassId) (dI : Nat → Nat → Nat) (cu : Nat) (fa : Nat) (lu : Nat) (a1 : Int32) : Met l yX2_hasPlace uX2_hasPlace ({ frames := 0, cells := 0, slots := 0, locals := 0 }) (va_Pc [.ref cu, .int a1] (pw (dC, dI) vwCl [(cu, .inr (1, [.int 0, .int 0, .int 0, .int 0, .int 0, .ref fa, .ref lu]))] [])) (vp_Si (fun r => r = 0)) 0 0 (fun _ => False) := by
  refine Met.ofW (cc := cX2_hasPlace) (maxL := 2) (ret := (some .boolean)) (by decide) rfl ?_
  intro p e s m args below meth c s₁ B hml hv
  obtain ⟨rfl, hP, hK, hN⟩ := hv
  have hx := B.exec
  have hb := B.bytes
  have hr := B.returns
  have hts := atoms_spec (ws := uX2_hasPlace) B.pre
  have hown : s.vm.findClass RX2 = some m.cls := findClass_of_methodNamed B.named
  have hlocks := B.notSynchronized
  have hl := lv_entry ([.ref cu, .int a1]) (n := 2) (Nat.le_of_ble_eq_true rfl)
  rw [lg_entry_eq]
  generalize (lg_sl ([.ref cu, .int a1]) ++ List.replicate (2 - (lg_sl ([.ref cu, .int a1])).length) Slot.unset).toArray = ls at hl ⊢
  have hl : lv_has ls 2 [(0, .ref cu), (1, .int a1)] := hl
  refine lv_iload_n hx hb dX2_hasPlace_0 rfl (lv_at hl 1 rfl) ?_
  refine lv_if_lt (tgt := 16) hx hb dX2_hasPlace_1 (by decide) (fun c_1 => ?_) (fun c_1 => ?_)
  ·
    refine lv_iconst (v := 0) hx hb dX2_hasPlace_16 (by decide) ?_
    exact W.zret (v := 0) hx hb hr rfl (fun t ht hW => ⟨0, rfl, rfl, ht⟩) t_nil dX2_hasPlace_17
  ·
    refine lv_iload_n hx hb dX2_hasPlace_4 rfl (lv_at hl 1 rfl) ?_
    refine lv_aload_n hx hb dX2_hasPlace_5 rfl (lv_at hl 0 rfl) ?_
    refine va_get (D := (dC, dI)) (ci := 1) (v := .int 0) (C := RX2) (T := TX2) (N := 7) hx hb hts iX2_hasPlace_X2 hown hK hP 0 rfl rfl 0 (by decide) (hts (.fieldLink RX2 25 "LuckyTicket$Roll" "length" "I") (List.mem_of_getElem? (i := 1) rfl)) (fun _ h9 => h9) rfl dX2_hasPlace_6 ?_
    refine lv_icmp_ge (tgt := 16) hx hb dX2_hasPlace_9 (by decide) (fun c_2 => ?_) (fun c_2 => absurd (fa_nlt c_1) c_2)
    refine lv_iconst (v := 0) hx hb dX2_hasPlace_16 (by decide) ?_
    exact W.zret (v := 0) hx hb hr rfl (fun t ht hW => ⟨0, rfl, rfl, ht⟩) t_nil dX2_hasPlace_17
theorem dX2_stands_0 : decode cX2_stands 0 = .ok (.aload_n 0, 1) := by decide +kernel
theorem dX2_stands_1 : decode cX2_stands 1 = .ok (.getfield 42, 3) := by decide +kernel
theorem dX2_stands_4 : decode cX2_stands 4 = .ok (.ifCond .le 7, 3) := by decide +kernel
theorem dX2_stands_11 : decode cX2_stands 11 = .ok (.iconst 0, 1) := by decide +kernel
theorem dX2_stands_12 : decode cX2_stands 12 = .ok (.ireturn, 1) := by decide +kernel
def uX2_stands : List Cond := .code yX2_stands cX2_stands 1 (some .boolean) :: ([.fieldLink RX2 42 "LuckyTicket$Roll" "tickets" "I"] ++ wsX20)
theorem iX2_stands_X2 : ∀ w ∈ wsX20, w ∈ uX2_stands := fun _ h => List.mem_cons_of_mem _ (List.mem_append_right _ h)
set_option maxHeartbeats 4000000 in
set_option maxRecDepth 100000 in
theorem kX2_stands (l : Launch) (dC : Nat → ClassId) (dI : Nat → Nat → Nat) (cu : Nat) (fa : Nat) (lu : Nat) : Met l yX2_stands uX2_stands ({ frames := 0, cells := 0, slots := 0, locals := 0 }) (va_Pc [.ref cu] (pw (dC, dI) vwCl [(cu, .inr (1, [.int 0, .int 0, .int 0, .int 0, .int 0, .ref fa, .ref lu]))] [])) (vp_Si (fun r => r = 0)) 0 0 (fun _ => False) := by
  refine Met.ofW (cc := cX2_stands) (maxL := 1) (ret := (some .boolean)) (by decide) rfl ?_
  intro p e s m args below meth c s₁ B hml hv
  obtain ⟨rfl, hP, hK, hN⟩ := hv
  have hx := B.exec
  have hb := B.bytes
  have hr := B.returns
  have hts := atoms_spec (ws := uX2_stands) B.pre
  have hown : s.vm.findClass RX2 = some m.cls := findClass_of_methodNamed B.named
  have hlocks := B.notSynchronized
  have hl := lv_entry ([.ref cu]) (n := 1) (Nat.le_of_ble_eq_true rfl)
  rw [lg_entry_eq]
  generalize (lg_sl ([.ref cu]) ++ List.replicate (1 - (lg_sl ([.ref cu])).length) Slot.unset).toArray = ls at hl ⊢
  have hl : lv_has ls 1 [(0, .ref cu)] := hl
  refine lv_aload_n hx hb dX2_stands_0 rfl (lv_at hl 0 rfl) ?_
  refine va_get (D := (dC, dI)) (ci := 1) (v := .int 0) (C := RX2) (T := TX2) (N := 7) hx hb hts iX2_stands_X2 hown hK hP 0 rfl rfl 2 (by decide) (hts (.fieldLink RX2 42 "LuckyTicket$Roll" "tickets" "I") (List.mem_of_getElem? (i := 1) rfl)) (fun _ h9 => h9) rfl dX2_stands_1 ?_
  refine lv_if_le (tgt := 11) hx hb dX2_stands_4 (by decide) (fun _ => ?_) (fun c_1 => absurd c_1 (by decide))
  refine lv_iconst (v := 0) hx hb dX2_stands_11 (by decide) ?_
  exact W.zret (v := 0) hx hb hr rfl (fun t ht hW => ⟨0, rfl, rfl, ht⟩) t_nil dX2_stands_12
theorem dX2_hasSet_0 : decode cX2_hasSet 0 = .ok (.aload_n 0, 1) := by decide +kernel
theorem dX2_hasSet_1 : decode cX2_hasSet 1 = .ok (.invokevirtual 59, 3) := by decide +kernel
theorem dX2_hasSet_4 : decode cX2_hasSet 4 = .ok (.ifCond .eq 20, 3) := by decide +kernel
theorem dX2_hasSet_24 : decode cX2_hasSet 24 = .ok (.iconst 0, 1) := by decide +kernel
theorem dX2_hasSet_25 : decode cX2_hasSet 25 = .ok (.ireturn, 1) := by decide +kernel
def uX2_hasSet : List Cond := .code yX2_hasSet cX2_hasSet 2 (some .boolean) :: ([.methodLink RX2 59 yX2_stands, .instanceMethod yX2_stands, .selects RX2 yX2_stands yX2_stands, .initialized RX2, .code yX2_stands cX2_stands 1 (some .boolean), .fieldLink RX2 42 "LuckyTicket$Roll" "tickets" "I"] ++ wsX20)
theorem iX2_hasSet_X2 : ∀ w ∈ wsX20, w ∈ uX2_hasSet := fun _ h => List.mem_cons_of_mem _ (List.mem_append_right _ h)
set_option maxRecDepth 20000 in
theorem gX2_hasSet__X2_stands_V59 : GoodIn uX2_hasSet (wsV RX2 59 RX2 yX2_stands uX2_stands) := goodIn_p _ [5] rfl (by decide +kernel)
set_option maxHeartbeats 4000000 in
set_option maxRecDepth 100000 in
theorem kX2_hasSet (l : Launch) (dC : Nat → ClassId) (dI : Nat → Nat → Nat) (cu : Nat) (fa : Nat) (lu : Nat) (a1 : Int32) : Met l yX2_hasSet uX2_hasSet ({ frames := 1, cells := 0, slots := 0, locals := 20 }) (va_Pc [.ref cu, .int a1] (pw (dC, dI) vwCl [(cu, .inr (1, [.int 0, .int 0, .int 0, .int 0, .int 0, .ref fa, .ref lu]))] [])) (vp_Si (fun r => r = 0)) 0 0 (fun _ => False) := by
  refine Met.ofW (cc := cX2_hasSet) (maxL := 2) (ret := (some .boolean)) (by decide) rfl ?_
  intro p e s m args below meth c s₁ B hml hv
  obtain ⟨rfl, hP, hK, hN⟩ := hv
  have hx := B.exec
  have hb := B.bytes
  have hr := B.returns
  have hts := atoms_spec (ws := uX2_hasSet) B.pre
  have hown : s.vm.findClass RX2 = some m.cls := findClass_of_methodNamed B.named
  have hlocks := B.notSynchronized
  have hl := lv_entry ([.ref cu, .int a1]) (n := 2) (Nat.le_of_ble_eq_true rfl)
  rw [lg_entry_eq]
  generalize (lg_sl ([.ref cu, .int a1]) ++ List.replicate (2 - (lg_sl ([.ref cu, .int a1])).length) Slot.unset).toArray = ls at hl ⊢
  have hl : lv_has ls 2 [(0, .ref cu), (1, .int a1)] := hl
  refine lv_aload_n hx hb dX2_hasSet_0 rfl (lv_at hl 0 rfl) ?_
  refine vp_callSi (W.runV (As := []) (rest := []) ⟨hx, hb, hml, hown, hts⟩ (kX2_stands l dC dI cu fa lu) (cwV 0 hts gX2_hasSet__X2_stands_V59 rfl rfl rfl (by decide +kernel) ⟨lel 1 1 rfl, lel 20 20 rfl⟩) ⟨pw_fb, va_recv hK hP (ci := 1) (q0 := 0) rfl rfl, (pw_use hP hK hN [0] rfl [] rfl)⟩ rfl rfl hl.1 rfl (lv_room (Nat.le_of_ble_eq_true rfl)) dX2_hasSet_1 ⟨lel 0 0 rfl, lel 0 0 rfl⟩) (fun r_1 hr_1 => ?_)
  obtain rfl : r_1 = 0 := hr_1
  refine lv_if_eq (tgt := 24) hx hb dX2_hasSet_4 (by decide) (fun _ => ?_) (fun c_2 => absurd c_2 (by decide))
  refine lv_iconst (v := 0) hx hb dX2_hasSet_24 (by decide) ?_
  exact W.zret (v := 0) hx hb hr rfl (fun t ht hW => ⟨0, rfl, rfl, ht⟩) t_nil dX2_hasSet_25
theorem dX9_hasBoth_0 : decode cX9_hasBoth 0 = .ok (.aload_n 0, 1) := by decide +kernel
theorem dX9_hasBoth_1 : decode cX9_hasBoth 1 = .ok (.getfield 35, 3) := by decide +kernel
theorem dX9_hasBoth_4 : decode cX9_hasBoth 4 = .ok (.iload_n 1, 1) := by decide +kernel
theorem dX9_hasBoth_5 : decode cX9_hasBoth 5 = .ok (.invokevirtual 149, 3) := by decide +kernel
theorem dX9_hasBoth_8 : decode cX9_hasBoth 8 = .ok (.ifCond .eq 18, 3) := by decide +kernel
theorem dX9_hasBoth_26 : decode cX9_hasBoth 26 = .ok (.iconst 0, 1) := by decide +kernel
theorem dX9_hasBoth_27 : decode cX9_hasBoth 27 = .ok (.ireturn, 1) := by decide +kernel
def uX9_hasBoth : List Cond := .code yX9_hasBoth cX9_hasBoth 3 (some .boolean) :: ([.fieldLink RX9 35 "LuckyTicket" "current" "LLuckyTicket$Roll;", .methodLink RX9 149 yX2_hasLaw, .instanceMethod yX2_hasLaw, .selects RX2 yX2_hasLaw yX2_hasLaw, .initialized RX2, .code yX2_hasLaw cX2_hasLaw 2 (some .boolean), .fieldLink RX2 33 "LuckyTicket$Roll" "laws" "I"] ++ wsX90 ++ wsX20)
theorem iX9_hasBoth_X9 : ∀ w ∈ wsX90, w ∈ uX9_hasBoth := fun _ h => List.mem_cons_of_mem _ (List.mem_append_left _ (List.mem_append_right _ h))
theorem iX9_hasBoth_X2 : ∀ w ∈ wsX20, w ∈ uX9_hasBoth := fun _ h => List.mem_cons_of_mem _ (List.mem_append_right _ h)
set_option maxRecDepth 20000 in
theorem gX9_hasBoth__X2_hasLaw_V149 : GoodIn uX9_hasBoth (wsV RX9 149 RX2 yX2_hasLaw uX2_hasLaw) := goodIn_p _ [6] rfl (by decide +kernel)
set_option maxHeartbeats 4000000 in
set_option maxRecDepth 100000 in
theorem kX9_hasBoth (l : Launch) (dC : Nat → ClassId) (dI : Nat → Nat → Nat) (h0 : Nat) (tp : Nat) (sc : Nat) (rd : Nat) (cu : Nat) (im : Nat) (ig : Nat) (sl : Nat) (se : Nat) (su : Nat) (fc : Nat) (fa : Nat) (lu : Nat) (a1 : Int32) (a2 : Int32) : Met l yX9_hasBoth uX9_hasBoth ({ frames := 1, cells := 0, slots := 0, locals := 21 }) (va_Pc [.ref h0, .int a1, .int a2] (pw (dC, dI) vwCl [(h0, .inr (7, [.ref tp, .ref sc, .ref rd, .ref cu, .ref im, .ref ig, .ref sl, .ref se, .ref su, .ref fc])), (cu, .inr (1, [.int 0, .int 0, .int 0, .int 0, .int 0, .ref fa, .ref lu]))] [])) (vp_Si (fun r => r = 0)) 0 0 (fun _ => False) := by
  refine Met.ofW (cc := cX9_hasBoth) (maxL := 3) (ret := (some .boolean)) (by decide) rfl ?_
  intro p e s m args below meth c s₁ B hml hv
  obtain ⟨rfl, hP, hK, hN⟩ := hv
  have hx := B.exec
  have hb := B.bytes
  have hr := B.returns
  have hts := atoms_spec (ws := uX9_hasBoth) B.pre
  have hown : s.vm.findClass RX9 = some m.cls := findClass_of_methodNamed B.named
  have hlocks := B.notSynchronized
  have hl := lv_entry ([.ref h0, .int a1, .int a2]) (n := 3) (Nat.le_of_ble_eq_true rfl)
  rw [lg_entry_eq]
  generalize (lg_sl ([.ref h0, .int a1, .int a2]) ++ List.replicate (3 - (lg_sl ([.ref h0, .int a1, .int a2])).length) Slot.unset).toArray = ls at hl ⊢
  have hl : lv_has ls 3 [(0, .ref h0), (1, .int a1), (2, .int a2)] := hl
  refine lv_aload_n hx hb dX9_hasBoth_0 rfl (lv_at hl 0 rfl) ?_
  refine va_get (D := (dC, dI)) (ci := 7) (v := .ref cu) (C := RX9) (T := TX9) (N := 10) hx hb hts iX9_hasBoth_X9 hown hK hP 0 rfl rfl 3 (by decide) (hts (.fieldLink RX9 35 "LuckyTicket" "current" "LLuckyTicket$Roll;") (List.mem_of_getElem? (i := 1) rfl)) (fun _ h9 => h9) rfl dX9_hasBoth_1 ?_
  refine lv_iload_n hx hb dX9_hasBoth_4 rfl (lv_at hl 1 rfl) ?_
  refine vp_callSi (W.runV (As := [.int a1]) (rest := []) ⟨hx, hb, hml, hown, hts⟩ (kX2_hasLaw l dC dI cu fa lu a1) (cwV 1 hts gX9_hasBoth__X2_hasLaw_V149 rfl rfl rfl (by decide +kernel) ⟨lel 1 1 rfl, lel 21 21 rfl⟩) ⟨pw_fb, va_recv hK hP (ci := 1) (q0 := 1) rfl rfl, (pw_use hP hK hN [1] rfl [] rfl)⟩ rfl rfl hl.1 rfl (lv_room (Nat.le_of_ble_eq_true rfl)) dX9_hasBoth_5 ⟨lel 0 0 rfl, lel 0 0 rfl⟩) (fun r_1 hr_1 => ?_)
  obtain rfl : r_1 = 0 := hr_1
  refine lv_if_eq (tgt := 26) hx hb dX9_hasBoth_8 (by decide) (fun _ => ?_) (fun c_2 => absurd c_2 (by decide))
  refine lv_iconst (v := 0) hx hb dX9_hasBoth_26 (by decide) ?_
  exact W.zret (v := 0) hx hb hr rfl (fun t ht hW => ⟨0, rfl, rfl, ht⟩) t_nil dX9_hasBoth_27
theorem dX9_isWithin_0 : decode cX9_isWithin 0 = .ok (.iload_n 0, 1) := by decide +kernel
theorem dX9_isWithin_1 : decode cX9_isWithin 1 = .ok (.iload_n 1, 1) := by decide +kernel
theorem dX9_isWithin_2 : decode cX9_isWithin 2 = .ok (.if_icmp .lt 12, 3) := by decide +kernel
theorem dX9_isWithin_5 : decode cX9_isWithin 5 = .ok (.iload_n 0, 1) := by decide +kernel
theorem dX9_isWithin_6 : decode cX9_isWithin 6 = .ok (.iload_n 2, 1) := by decide +kernel
theorem dX9_isWithin_7 : decode cX9_isWithin 7 = .ok (.if_icmp .gt 7, 3) := by decide +kernel
theorem dX9_isWithin_10 : decode cX9_isWithin 10 = .ok (.iconst 1, 1) := by decide +kernel
theorem dX9_isWithin_11 : decode cX9_isWithin 11 = .ok (.goto 4, 3) := by decide +kernel
theorem dX9_isWithin_14 : decode cX9_isWithin 14 = .ok (.iconst 0, 1) := by decide +kernel
theorem dX9_isWithin_15 : decode cX9_isWithin 15 = .ok (.ireturn, 1) := by decide +kernel
def uX9_isWithin : List Cond := .code yX9_isWithin cX9_isWithin 3 (some .boolean) :: ([])
set_option maxHeartbeats 4000000 in
set_option maxRecDepth 100000 in
theorem kX9_isWithin (l : Launch) (dC : Nat → ClassId) (dI : Nat → Nat → Nat) (a1 : Int32) (a2 : Int32) (a3 : Int32) : Met l yX9_isWithin uX9_isWithin ({ frames := 0, cells := 0, slots := 0, locals := 0 }) (va_Pc [.int a1, .int a2, .int a3] (fun _ => True)) (vp_Si (fun r => r = wi a1 a2 a3)) 0 0 (fun _ => False) := by
  refine Met.ofW (cc := cX9_isWithin) (maxL := 3) (ret := (some .boolean)) (by decide) rfl ?_
  intro p e s m args below meth c s₁ B hml hv
  obtain ⟨rfl, _⟩ := hv
  have hx := B.exec
  have hb := B.bytes
  have hr := B.returns
  have hts := atoms_spec (ws := uX9_isWithin) B.pre
  have hown : s.vm.findClass RX9 = some m.cls := findClass_of_methodNamed B.named
  have hlocks := B.notSynchronized
  have hl := lv_entry ([.int a1, .int a2, .int a3]) (n := 3) (Nat.le_of_ble_eq_true rfl)
  rw [lg_entry_eq]
  generalize (lg_sl ([.int a1, .int a2, .int a3]) ++ List.replicate (3 - (lg_sl ([.int a1, .int a2, .int a3])).length) Slot.unset).toArray = ls at hl ⊢
  have hl : lv_has ls 3 [(0, .int a1), (1, .int a2), (2, .int a3)] := hl
  refine lv_iload_n hx hb dX9_isWithin_0 rfl (lv_at hl 0 rfl) ?_
  refine lv_iload_n hx hb dX9_isWithin_1 rfl (lv_at hl 1 rfl) ?_
  refine lv_icmp_lt (tgt := 14) hx hb dX9_isWithin_2 (by decide) (fun c_1 => ?_) (fun c_1 => ?_)
  ·
    refine lv_iconst (v := 0) hx hb dX9_isWithin_14 (by decide) ?_
    exact W.zret (v := 0) hx hb hr rfl (fun t ht hW => ⟨0, rfl, wi_a c_1, ht⟩) t_nil dX9_isWithin_15
  ·
    refine lv_iload_n hx hb dX9_isWithin_5 rfl (lv_at hl 0 rfl) ?_
    refine lv_iload_n hx hb dX9_isWithin_6 rfl (lv_at hl 2 rfl) ?_
    refine lv_icmp_gt (tgt := 14) hx hb dX9_isWithin_7 (by decide) (fun c_2 => ?_) (fun c_2 => ?_)
    ·
      refine lv_iconst (v := 0) hx hb dX9_isWithin_14 (by decide) ?_
      exact W.zret (v := 0) hx hb hr rfl (fun t ht hW => ⟨0, rfl, wi_b c_2, ht⟩) t_nil dX9_isWithin_15
    ·
      refine lv_iconst (v := 1) hx hb dX9_isWithin_10 (by decide) ?_
      refine lv_goto (tgt := 15) hx hb dX9_isWithin_11 (by decide) ?_
      exact W.zret (v := 1) hx hb hr rfl (fun t ht hW => ⟨1, rfl, wi_1 c_1 c_2, ht⟩) t_nil dX9_isWithin_15
theorem dX9_hasSlot_0 : decode cX9_hasSlot 0 = .ok (.iload_n 1, 1) := by decide +kernel
theorem dX9_hasSlot_1 : decode cX9_hasSlot 1 = .ok (.iconst 0, 1) := by decide +kernel
theorem dX9_hasSlot_2 : decode cX9_hasSlot 2 = .ok (.aload_n 0, 1) := by decide +kernel
theorem dX9_hasSlot_3 : decode cX9_hasSlot 3 = .ok (.getfield 50, 3) := by decide +kernel
theorem dX9_hasSlot_6 : decode cX9_hasSlot 6 = .ok (.arraylength, 1) := by decide +kernel
theorem dX9_hasSlot_7 : decode cX9_hasSlot 7 = .ok (.iconst 1, 1) := by decide +kernel
theorem dX9_hasSlot_8 : decode cX9_hasSlot 8 = .ok (.isub, 1) := by decide +kernel
theorem dX9_hasSlot_9 : decode cX9_hasSlot 9 = .ok (.invokestatic 158, 3) := by decide +kernel
theorem dX9_hasSlot_12 : decode cX9_hasSlot 12 = .ok (.ireturn, 1) := by decide +kernel
def uX9_hasSlot : List Cond := .code yX9_hasSlot cX9_hasSlot 2 (some .boolean) :: ([.fieldLink RX9 50 "LuckyTicket" "slots" "[LLuckyTicket$Row;", .methodLink RX9 158 yX9_isWithin, .static yX9_isWithin, .initialized RX9, .code yX9_isWithin cX9_isWithin 3 (some .boolean)] ++ wsX90)
theorem iX9_hasSlot_X9 : ∀ w ∈ wsX90, w ∈ uX9_hasSlot := fun _ h => List.mem_cons_of_mem _ (List.mem_append_right _ h)
set_option maxRecDepth 20000 in
theorem gX9_hasSlot__X9_isWithin_S158 : GoodIn uX9_hasSlot (va_wsS RX9 158 yX9_isWithin uX9_isWithin) := goodIn_p _ [5] rfl (by decide +kernel)
set_option maxHeartbeats 4000000 in
set_option maxRecDepth 100000 in
theorem kX9_hasSlot (l : Launch) (dC : Nat → ClassId) (dI : Nat → Nat → Nat) (h0 : Nat) (tp : Nat) (sc : Nat) (rd : Nat) (cu : Nat) (im : Nat) (ig : Nat) (sl : Nat) (se : Nat) (su : Nat) (fc : Nat) (cS : ClassId) (sf : Nat → Option Nat) (a1 : Int32) : Met l yX9_hasSlot uX9_hasSlot ({ frames := 1, cells := 0, slots := 0, locals := 22 }) (va_Pc [.ref h0, .int a1] (pw (dC, dI) vwCl [(h0, .inr (7, [.ref tp, .ref sc, .ref rd, .ref cu, .ref im, .ref ig, .ref sl, .ref se, .ref su, .ref fc])), (sl, .inl (cS, 4, .inr (.inr (.inr (.inr sf)))))] [(cS, .object RX3)])) (vp_Si (fun r => r = wi a1 0 3)) 0 0 (fun _ => False) := by
  refine Met.ofW (cc := cX9_hasSlot) (maxL := 2) (ret := (some .boolean)) (by decide) rfl ?_
  intro p e s m args below meth c s₁ B hml hv
  obtain ⟨rfl, hP, hK, hN⟩ := hv
  have hx := B.exec
  have hb := B.bytes
  have hr := B.returns
  have hts := atoms_spec (ws := uX9_hasSlot) B.pre
  have hown : s.vm.findClass RX9 = some m.cls := findClass_of_methodNamed B.named
  have hlocks := B.notSynchronized
  have hl := lv_entry ([.ref h0, .int a1]) (n := 2) (Nat.le_of_ble_eq_true rfl)
  rw [lg_entry_eq]
  generalize (lg_sl ([.ref h0, .int a1]) ++ List.replicate (2 - (lg_sl ([.ref h0, .int a1])).length) Slot.unset).toArray = ls at hl ⊢
  have hl : lv_has ls 2 [(0, .ref h0), (1, .int a1)] := hl
  refine lv_iload_n hx hb dX9_hasSlot_0 rfl (lv_at hl 1 rfl) ?_
  refine lv_iconst (v := 0) hx hb dX9_hasSlot_1 (by decide) ?_
  refine lv_aload_n hx hb dX9_hasSlot_2 rfl (lv_at hl 0 rfl) ?_
  refine va_get (D := (dC, dI)) (ci := 7) (v := .ref sl) (C := RX9) (T := TX9) (N := 10) hx hb hts iX9_hasSlot_X9 hown hK hP 0 rfl rfl 6 (by decide) (hts (.fieldLink RX9 50 "LuckyTicket" "slots" "[LLuckyTicket$Row;") (List.mem_of_getElem? (i := 1) rfl)) (fun _ h9 => h9) rfl dX9_hasSlot_3 ?_
  refine va_alen (v := 4) hx hb hK hP 1 0 rfl rfl (by rfl) dX9_hasSlot_6 ?_
  refine lv_iconst (v := 1) hx hb dX9_hasSlot_7 (by decide) ?_
  refine lv_isub hx hb dX9_hasSlot_8 ?_
  refine lv_topi (fun z_1 ez_1 => ?_)
  obtain rfl : z_1 = 3 := ez_1.trans (by decide)
  refine vp_callSi (W.runS (As := [.int a1, .int 0, .int 3]) (rest := []) ⟨hx, hb, hml, hown, hts⟩ (kX9_isWithin l dC dI a1 0 3) (va_cwS 3 hts gX9_hasSlot__X9_isWithin_S158 rfl rfl rfl (by decide +kernel) ⟨lel 1 1 rfl, lel 22 22 rfl⟩) ⟨pn_fb, pn_use⟩ rfl rfl hl.1 rfl (lv_room (Nat.le_of_ble_eq_true rfl)) dX9_hasSlot_9 ⟨lel 0 0 rfl, lel 0 0 rfl⟩) (fun r_2 hr_2 => ?_)
  exact W.zret (v := r_2) hx hb hr (by rw [hr_2]; exact wi_n _ _ _) (fun t ht hW => ⟨r_2, rfl, hr_2, ht⟩) t_nil dX9_hasSlot_12
end
section
theorem dX10_in_0 : decode cX10_in 0 = .ok (.lload_n 0, 1) := by decide +kernel
theorem dX10_in_1 : decode cX10_in 1 = .ok (.lload_n 2, 1) := by decide +kernel
theorem dX10_in_2 : decode cX10_in 2 = .ok (.lcmp, 1) := by decide +kernel
theorem dX10_in_3 : decode cX10_in 3 = .ok (.ifCond .lt 14, 3) := by decide +kernel
theorem dX10_in_6 : decode cX10_in 6 = .ok (.lload_n 0, 1) := by decide +kernel
theorem dX10_in_7 : decode cX10_in 7 = .ok (.lload 4, 2) := by decide +kernel
theorem dX10_in_9 : decode cX10_in 9 = .ok (.lcmp, 1) := by decide +kernel
theorem dX10_in_10 : decode cX10_in 10 = .ok (.ifCond .gt 7, 3) := by decide +kernel
theorem dX10_in_13 : decode cX10_in 13 = .ok (.iconst 1, 1) := by decide +kernel
theorem dX10_in_14 : decode cX10_in 14 = .ok (.goto 4, 3) := by decide +kernel
theorem dX10_in_17 : decode cX10_in 17 = .ok (.iconst 0, 1) := by decide +kernel
theorem dX10_in_18 : decode cX10_in 18 = .ok (.ireturn, 1) := by decide +kernel
def uX10_in : List Cond := .code yX10_in cX10_in 6 (some .boolean) :: ([])
set_option maxHeartbeats 4000000 in
set_option maxRecDepth 100000 in
theorem kX10_in (l : Launch) (dC : Nat → ClassId) (dI : Nat → Nat → Nat) (v : Int64) (lo : Int64) (hi : Int64) : Met l yX10_in uX10_in ({ frames := 0, cells := 0, slots := 0, locals := 0 }) (va_Pc [.long v, .long lo, .long hi] (fun _ => True)) (vp_Si (fun r => r = inr v lo hi)) 0 0 (fun _ => False) := by
  refine Met.ofW (cc := cX10_in) (maxL := 6) (ret := (some .boolean)) (by decide) rfl ?_
  intro p e s m args below meth c s₁ B hml hv
  obtain ⟨rfl, _⟩ := hv
  have hx := B.exec
  have hb := B.bytes
  have hr := B.returns
  have hts := atoms_spec (ws := uX10_in) B.pre
  have hown : s.vm.findClass RX10 = some m.cls := findClass_of_methodNamed B.named
  have hlocks := B.notSynchronized
  have hl := lv_entry ([.long v, .long lo, .long hi]) (n := 6) (Nat.le_of_ble_eq_true rfl)
  rw [lg_entry_eq]
  generalize (lg_sl ([.long v, .long lo, .long hi]) ++ List.replicate (6 - (lg_sl ([.long v, .long lo, .long hi])).length) Slot.unset).toArray = ls at hl ⊢
  have hl : lv_has ls 6 [(0, .long v), (2, .long lo), (4, .long hi)] := hl
  refine lv_lload_n hx hb dX10_in_0 rfl (lv_at hl 0 rfl) ?_
  refine lv_lload_n hx hb dX10_in_1 rfl (lv_at hl 1 rfl) ?_
  refine W.lcmp hx hb dX10_in_2 ?_
  refine lv_if_lt (tgt := 17) hx hb dX10_in_3 (by decide) (fun c_1 => ?_) (fun c_1 => ?_)
  ·
    refine lv_iconst (v := 0) hx hb dX10_in_17 (by decide) ?_
    exact W.zret (v := 0) hx hb hr rfl (fun t ht hW => ⟨0, rfl, inr_a c_1, ht⟩) t_nil dX10_in_18
  ·
    refine lv_lload_n hx hb dX10_in_6 rfl (lv_at hl 0 rfl) ?_
    refine lv_lload hx hb dX10_in_7 (lv_at hl 2 rfl) ?_
    refine W.lcmp hx hb dX10_in_9 ?_
    refine lv_if_gt (tgt := 17) hx hb dX10_in_10 (by decide) (fun c_2 => ?_) (fun c_2 => ?_)
    ·
      refine lv_iconst (v := 0) hx hb dX10_in_17 (by decide) ?_
      exact W.zret (v := 0) hx hb hr rfl (fun t ht hW => ⟨0, rfl, inr_b c_2, ht⟩) t_nil dX10_in_18
    ·
      refine lv_iconst (v := 1) hx hb dX10_in_13 (by decide) ?_
      refine lv_goto (tgt := 18) hx hb dX10_in_14 (by decide) ?_
      exact W.zret (v := 1) hx hb hr rfl (fun t ht hW => ⟨1, rfl, inr_1 c_1 c_2, ht⟩) t_nil dX10_in_18
def uX10_in_no : List Cond := .code yX10_in cX10_in 6 (some .boolean) :: ([])
set_option maxHeartbeats 4000000 in
set_option maxRecDepth 100000 in
theorem kX10_in_no (l : Launch) (dC : Nat → ClassId) (dI : Nat → Nat → Nat) (v : Int64) : Met l yX10_in uX10_in_no ({ frames := 0, cells := 0, slots := 0, locals := 0 }) (va_Pc [.long v, .long 0, .long (-1)] (fun _ => True)) (vp_Si (fun r => r = 0)) 0 0 (fun _ => False) := by
  refine Met.ofW (cc := cX10_in) (maxL := 6) (ret := (some .boolean)) (by decide) rfl ?_
  intro p e s m args below meth c s₁ B hml hv
  obtain ⟨rfl, _⟩ := hv
  have hx := B.exec
  have hb := B.bytes
  have hr := B.returns
  have hts := atoms_spec (ws := uX10_in_no) B.pre
  have hown : s.vm.findClass RX10 = some m.cls := findClass_of_methodNamed B.named
  have hlocks := B.notSynchronized
  have hl := lv_entry ([.long v, .long 0, .long (-1)]) (n := 6) (Nat.le_of_ble_eq_true rfl)
  rw [lg_entry_eq]
  generalize (lg_sl ([.long v, .long 0, .long (-1)]) ++ List.replicate (6 - (lg_sl ([.long v, .long 0, .long (-1)])).length) Slot.unset).toArray = ls at hl ⊢
  have hl : lv_has ls 6 [(0, .long v), (2, .long 0), (4, .long (-1))] := hl
  refine lv_lload_n hx hb dX10_in_0 rfl (lv_at hl 0 rfl) ?_
  refine lv_lload_n hx hb dX10_in_1 rfl (lv_at hl 1 rfl) ?_
  refine W.lcmp hx hb dX10_in_2 ?_
  refine lv_if_lt (tgt := 17) hx hb dX10_in_3 (by decide) (fun c_1 => ?_) (fun c_1 => ?_)
  ·
    refine lv_iconst (v := 0) hx hb dX10_in_17 (by decide) ?_
    exact W.zret (v := 0) hx hb hr rfl (fun t ht hW => ⟨0, rfl, (inr_a c_1).trans (inr_no v), ht⟩) t_nil dX10_in_18
  ·
    refine lv_lload_n hx hb dX10_in_6 rfl (lv_at hl 0 rfl) ?_
    refine lv_lload hx hb dX10_in_7 (lv_at hl 2 rfl) ?_
    refine W.lcmp hx hb dX10_in_9 ?_
    refine lv_if_gt (tgt := 17) hx hb dX10_in_10 (by decide) (fun c_2 => ?_) (fun c_2 => ?_)
    ·
      refine lv_iconst (v := 0) hx hb dX10_in_17 (by decide) ?_
      exact W.zret (v := 0) hx hb hr rfl (fun t ht hW => ⟨0, rfl, (inr_b c_2).trans (inr_no v), ht⟩) t_nil dX10_in_18
    ·
      refine lv_iconst (v := 1) hx hb dX10_in_13 (by decide) ?_
      refine lv_goto (tgt := 18) hx hb dX10_in_14 (by decide) ?_
      exact W.zret (v := 1) hx hb hr rfl (fun t ht hW => ⟨1, rfl, (inr_1 c_1 c_2).trans (inr_no v), ht⟩) t_nil dX10_in_18
theorem dX10_isTicket_0 : decode cX10_isTicket 0 = .ok (.lload_n 1, 1) := by decide +kernel
theorem dX10_isTicket_1 : decode cX10_isTicket 1 = .ok (.lconst 0, 1) := by decide +kernel
theorem dX10_isTicket_2 : decode cX10_isTicket 2 = .ok (.aload_n 0, 1) := by decide +kernel
theorem dX10_isTicket_3 : decode cX10_isTicket 3 = .ok (.getfield 9, 3) := by decide +kernel
theorem dX10_isTicket_6 : decode cX10_isTicket 6 = .ok (.iconst 2, 1) := by decide +kernel
theorem dX10_isTicket_7 : decode cX10_isTicket 7 = .ok (.iaload, 1) := by decide +kernel
theorem dX10_isTicket_8 : decode cX10_isTicket 8 = .ok (.iconst 1, 1) := by decide +kernel
theorem dX10_isTicket_9 : decode cX10_isTicket 9 = .ok (.isub, 1) := by decide +kernel
theorem dX10_isTicket_10 : decode cX10_isTicket 10 = .ok (.i2l, 1) := by decide +kernel
theorem dX10_isTicket_11 : decode cX10_isTicket 11 = .ok (.invokestatic 82, 3) := by decide +kernel
theorem dX10_isTicket_14 : decode cX10_isTicket 14 = .ok (.ireturn, 1) := by decide +kernel
def uX10_isTicket : List Cond := .code yX10_isTicket cX10_isTicket 3 (some .boolean) :: ([.fieldLink RX10 9 "LuckyTicketModel" "world" "[I", .methodLink RX10 82 yX10_in, .static yX10_in, .initialized RX10, .code yX10_in cX10_in 6 (some .boolean)] ++ wsX100)
theorem iX10_isTicket_X10 : ∀ w ∈ wsX100, w ∈ uX10_isTicket := fun _ h => List.mem_cons_of_mem _ (List.mem_append_right _ h)
set_option maxRecDepth 20000 in
theorem gX10_isTicket__X10_in_no_S82 : GoodIn uX10_isTicket (va_wsS RX10 82 yX10_in uX10_in_no) := goodIn_p _ [5] rfl (by decide +kernel)
set_option maxHeartbeats 4000000 in
set_option maxRecDepth 100000 in
theorem kX10_isTicket (l : Launch) (dC : Nat → ClassId) (dI : Nat → Nat → Nat) (h0 : Nat) (m_world : Nat) (m_images : Nat) (m_hasImage : Nat) (m_luck : Nat) (m_tape : Nat) (m_five : Nat) (m_fresh : Nat) (m_waits : Nat) (m_figures : Nat) (m_pile : Nat) (m_times : Nat) (m_far : Nat) (m_queue : Nat) (m_months : Nat) (m_ways : Nat) (m_waysOn : Nat) (m_many : Nat) (m_width : Nat) (m_numbers : Nat) (m_moving : Nat) (cI : ClassId) (v : Int64) : Met l yX10_isTicket uX10_isTicket ({ frames := 1, cells := 0, slots := 0, locals := 25 }) (va_Pc [.ref h0, .long v] (pw (dC, dI) vwCl [(h0, .inr (8, [.int 0, .ref m_world, .ref m_images, .ref m_hasImage, .ref m_luck, .ref m_tape, .int 0, .ref m_five, .int 0, .int 0, .int 0, .int 0, .int 0, .int 0, .int (-1), .ref m_fresh, .ref m_waits, .int 0, .int 0, .int 0, .ref m_figures, .ref m_pile, .long 0, .ref m_times, .ref m_far, .ref m_queue, .ref m_months, .ref m_ways, .ref m_waysOn, .ref m_many, .ref m_width, .ref m_numbers, .ref m_moving])), (m_world, .inl (cI, 1875, .inl (fun _ => 0)))] [(cI, .int)])) (vp_Si (fun r => r = 0)) 0 0 (fun _ => False) := by
  refine Met.ofW (cc := cX10_isTicket) (maxL := 3) (ret := (some .boolean)) (by decide) rfl ?_
  intro p e s m args below meth c s₁ B hml hv
  obtain ⟨rfl, hP, hK, hN⟩ := hv
  have hx := B.exec
  have hb := B.bytes
  have hr := B.returns
  have hts := atoms_spec (ws := uX10_isTicket) B.pre
  have hown : s.vm.findClass RX10 = some m.cls := findClass_of_methodNamed B.named
  have hlocks := B.notSynchronized
  have hl := lv_entry ([.ref h0, .long v]) (n := 3) (Nat.le_of_ble_eq_true rfl)
  rw [lg_entry_eq]
  generalize (lg_sl ([.ref h0, .long v]) ++ List.replicate (3 - (lg_sl ([.ref h0, .long v])).length) Slot.unset).toArray = ls at hl ⊢
  have hl : lv_has ls 3 [(0, .ref h0), (1, .long v)] := hl
  refine lv_lload_n hx hb dX10_isTicket_0 rfl (lv_at hl 1 rfl) ?_
  refine lv_lconst (v := 0) hx hb dX10_isTicket_1 (by decide) ?_
  refine lv_aload_n hx hb dX10_isTicket_2 rfl (lv_at hl 0 rfl) ?_
  refine va_get (D := (dC, dI)) (ci := 8) (v := .ref m_world) (C := RX10) (T := TX10) (N := 33) hx hb hts iX10_isTicket_X10 hown hK hP 0 rfl rfl 1 (by decide) (hts (.fieldLink RX10 9 "LuckyTicketModel" "world" "[I") (List.mem_of_getElem? (i := 1) rfl)) (fun _ h9 => h9) rfl dX10_isTicket_3 ?_
  refine lv_iconst (v := 2) hx hb dX10_isTicket_6 (by decide) ?_
  refine va_iald hx hb hK hP 1 0 rfl rfl (vp_in_lit (by decide)) dX10_isTicket_7 ?_
  refine lv_topi (fun z_1 ez_1 => ?_)
  obtain rfl : z_1 = 0 := ez_1
  refine lv_iconst (v := 1) hx hb dX10_isTicket_8 (by decide) ?_
  refine lv_isub hx hb dX10_isTicket_9 ?_
  refine lv_topi (fun z_2 ez_2 => ?_)
  obtain rfl : z_2 = (-1) := ez_2.trans (by decide)
  refine lv_i2l (v := (-1)) hx hb dX10_isTicket_10 (by decide) ?_
  refine vp_callSi (W.runS (As := [.long v, .long 0, .long (-1)]) (rest := []) ⟨hx, hb, hml, hown, hts⟩ (kX10_in_no l dC dI v) (va_cwS 3 hts gX10_isTicket__X10_in_no_S82 rfl rfl rfl (by decide +kernel) ⟨lel 1 1 rfl, lel 25 25 rfl⟩) ⟨pn_fb, pn_use⟩ rfl rfl hl.1 rfl (lv_room (Nat.le_of_ble_eq_true rfl)) dX10_isTicket_11 ⟨lel 0 0 rfl, lel 0 0 rfl⟩) (fun r_3 hr_3 => ?_)
  obtain rfl : r_3 = 0 := hr_3
  exact W.zret (v := 0) hx hb hr rfl (fun t ht hW => ⟨0, rfl, rfl, ht⟩) t_nil dX10_isTicket_14
theorem dX10_isLaw_0 : decode cX10_isLaw 0 = .ok (.iload_n 1, 1) := by decide +kernel
theorem dX10_isLaw_1 : decode cX10_isLaw 1 = .ok (.i2l, 1) := by decide +kernel
theorem dX10_isLaw_2 : decode cX10_isLaw 2 = .ok (.lconst 0, 1) := by decide +kernel
theorem dX10_isLaw_3 : decode cX10_isLaw 3 = .ok (.aload_n 0, 1) := by decide +kernel
theorem dX10_isLaw_4 : decode cX10_isLaw 4 = .ok (.getfield 9, 3) := by decide +kernel
theorem dX10_isLaw_7 : decode cX10_isLaw 7 = .ok (.iconst 3, 1) := by decide +kernel
theorem dX10_isLaw_8 : decode cX10_isLaw 8 = .ok (.iaload, 1) := by decide +kernel
theorem dX10_isLaw_9 : decode cX10_isLaw 9 = .ok (.iconst 1, 1) := by decide +kernel
theorem dX10_isLaw_10 : decode cX10_isLaw 10 = .ok (.isub, 1) := by decide +kernel
theorem dX10_isLaw_11 : decode cX10_isLaw 11 = .ok (.i2l, 1) := by decide +kernel
theorem dX10_isLaw_12 : decode cX10_isLaw 12 = .ok (.invokestatic 82, 3) := by decide +kernel
theorem dX10_isLaw_15 : decode cX10_isLaw 15 = .ok (.ireturn, 1) := by decide +kernel
def uX10_isLaw : List Cond := .code yX10_isLaw cX10_isLaw 2 (some .boolean) :: ([.fieldLink RX10 9 "LuckyTicketModel" "world" "[I", .methodLink RX10 82 yX10_in, .static yX10_in, .initialized RX10, .code yX10_in cX10_in 6 (some .boolean)] ++ wsX100)
theorem iX10_isLaw_X10 : ∀ w ∈ wsX100, w ∈ uX10_isLaw := fun _ h => List.mem_cons_of_mem _ (List.mem_append_right _ h)
set_option maxRecDepth 20000 in
theorem gX10_isLaw__X10_in_no_S82 : GoodIn uX10_isLaw (va_wsS RX10 82 yX10_in uX10_in_no) := goodIn_p _ [5] rfl (by decide +kernel)
set_option maxHeartbeats 4000000 in
set_option maxRecDepth 100000 in
theorem kX10_isLaw (l : Launch) (dC : Nat → ClassId) (dI : Nat → Nat → Nat) (h0 : Nat) (m_world : Nat) (m_images : Nat) (m_hasImage : Nat) (m_luck : Nat) (m_tape : Nat) (m_five : Nat) (m_fresh : Nat) (m_waits : Nat) (m_figures : Nat) (m_pile : Nat) (m_times : Nat) (m_far : Nat) (m_queue : Nat) (m_months : Nat) (m_ways : Nat) (m_waysOn : Nat) (m_many : Nat) (m_width : Nat) (m_numbers : Nat) (m_moving : Nat) (cI : ClassId) (a1 : Int32) : Met l yX10_isLaw uX10_isLaw ({ frames := 1, cells := 0, slots := 0, locals := 25 }) (va_Pc [.ref h0, .int a1] (pw (dC, dI) vwCl [(h0, .inr (8, [.int 0, .ref m_world, .ref m_images, .ref m_hasImage, .ref m_luck, .ref m_tape, .int 0, .ref m_five, .int 0, .int 0, .int 0, .int 0, .int 0, .int 0, .int (-1), .ref m_fresh, .ref m_waits, .int 0, .int 0, .int 0, .ref m_figures, .ref m_pile, .long 0, .ref m_times, .ref m_far, .ref m_queue, .ref m_months, .ref m_ways, .ref m_waysOn, .ref m_many, .ref m_width, .ref m_numbers, .ref m_moving])), (m_world, .inl (cI, 1875, .inl (fun _ => 0)))] [(cI, .int)])) (vp_Si (fun r => r = 0)) 0 0 (fun _ => False) := by
  refine Met.ofW (cc := cX10_isLaw) (maxL := 2) (ret := (some .boolean)) (by decide) rfl ?_
  intro p e s m args below meth c s₁ B hml hv
  obtain ⟨rfl, hP, hK, hN⟩ := hv
  have hx := B.exec
  have hb := B.bytes
  have hr := B.returns
  have hts := atoms_spec (ws := uX10_isLaw) B.pre
  have hown : s.vm.findClass RX10 = some m.cls := findClass_of_methodNamed B.named
  have hlocks := B.notSynchronized
  have hl := lv_entry ([.ref h0, .int a1]) (n := 2) (Nat.le_of_ble_eq_true rfl)
  rw [lg_entry_eq]
  generalize (lg_sl ([.ref h0, .int a1]) ++ List.replicate (2 - (lg_sl ([.ref h0, .int a1])).length) Slot.unset).toArray = ls at hl ⊢
  have hl : lv_has ls 2 [(0, .ref h0), (1, .int a1)] := hl
  refine lv_iload_n hx hb dX10_isLaw_0 rfl (lv_at hl 1 rfl) ?_
  refine lv_i2l (v := a1.toInt64) hx hb dX10_isLaw_1 rfl ?_
  refine lv_lconst (v := 0) hx hb dX10_isLaw_2 (by decide) ?_
  refine lv_aload_n hx hb dX10_isLaw_3 rfl (lv_at hl 0 rfl) ?_
  refine va_get (D := (dC, dI)) (ci := 8) (v := .ref m_world) (C := RX10) (T := TX10) (N := 33) hx hb hts iX10_isLaw_X10 hown hK hP 0 rfl rfl 1 (by decide) (hts (.fieldLink RX10 9 "LuckyTicketModel" "world" "[I") (List.mem_of_getElem? (i := 1) rfl)) (fun _ h9 => h9) rfl dX10_isLaw_4 ?_
  refine lv_iconst (v := 3) hx hb dX10_isLaw_7 (by decide) ?_
  refine va_iald hx hb hK hP 1 0 rfl rfl (vp_in_lit (by decide)) dX10_isLaw_8 ?_
  refine lv_topi (fun z_1 ez_1 => ?_)
  obtain rfl : z_1 = 0 := ez_1
  refine lv_iconst (v := 1) hx hb dX10_isLaw_9 (by decide) ?_
  refine lv_isub hx hb dX10_isLaw_10 ?_
  refine lv_topi (fun z_2 ez_2 => ?_)
  obtain rfl : z_2 = (-1) := ez_2.trans (by decide)
  refine lv_i2l (v := (-1)) hx hb dX10_isLaw_11 (by decide) ?_
  refine vp_callSi (W.runS (As := [.long a1.toInt64, .long 0, .long (-1)]) (rest := []) ⟨hx, hb, hml, hown, hts⟩ (kX10_in_no l dC dI a1.toInt64) (va_cwS 3 hts gX10_isLaw__X10_in_no_S82 rfl rfl rfl (by decide +kernel) ⟨lel 1 1 rfl, lel 25 25 rfl⟩) ⟨pn_fb, pn_use⟩ rfl rfl hl.1 rfl (lv_room (Nat.le_of_ble_eq_true rfl)) dX10_isLaw_12 ⟨lel 0 0 rfl, lel 0 0 rfl⟩) (fun r_3 hr_3 => ?_)
  obtain rfl : r_3 = 0 := hr_3
  exact W.zret (v := 0) hx hb hr rfl (fun t ht hW => ⟨0, rfl, rfl, ht⟩) t_nil dX10_isLaw_15
theorem dX10_isPlace_0 : decode cX10_isPlace 0 = .ok (.iload_n 1, 1) := by decide +kernel
theorem dX10_isPlace_1 : decode cX10_isPlace 1 = .ok (.i2l, 1) := by decide +kernel
theorem dX10_isPlace_2 : decode cX10_isPlace 2 = .ok (.lconst 0, 1) := by decide +kernel
theorem dX10_isPlace_3 : decode cX10_isPlace 3 = .ok (.aload_n 0, 1) := by decide +kernel
theorem dX10_isPlace_4 : decode cX10_isPlace 4 = .ok (.getfield 9, 3) := by decide +kernel
theorem dX10_isPlace_7 : decode cX10_isPlace 7 = .ok (.iconst 0, 1) := by decide +kernel
theorem dX10_isPlace_8 : decode cX10_isPlace 8 = .ok (.iaload, 1) := by decide +kernel
theorem dX10_isPlace_9 : decode cX10_isPlace 9 = .ok (.iconst 1, 1) := by decide +kernel
theorem dX10_isPlace_10 : decode cX10_isPlace 10 = .ok (.isub, 1) := by decide +kernel
theorem dX10_isPlace_11 : decode cX10_isPlace 11 = .ok (.i2l, 1) := by decide +kernel
theorem dX10_isPlace_12 : decode cX10_isPlace 12 = .ok (.invokestatic 82, 3) := by decide +kernel
theorem dX10_isPlace_15 : decode cX10_isPlace 15 = .ok (.ireturn, 1) := by decide +kernel
def uX10_isPlace : List Cond := .code yX10_isPlace cX10_isPlace 2 (some .boolean) :: ([.fieldLink RX10 9 "LuckyTicketModel" "world" "[I", .methodLink RX10 82 yX10_in, .static yX10_in, .initialized RX10, .code yX10_in cX10_in 6 (some .boolean)] ++ wsX100)
theorem iX10_isPlace_X10 : ∀ w ∈ wsX100, w ∈ uX10_isPlace := fun _ h => List.mem_cons_of_mem _ (List.mem_append_right _ h)
set_option maxRecDepth 20000 in
theorem gX10_isPlace__X10_in_no_S82 : GoodIn uX10_isPlace (va_wsS RX10 82 yX10_in uX10_in_no) := goodIn_p _ [5] rfl (by decide +kernel)
set_option maxHeartbeats 4000000 in
set_option maxRecDepth 100000 in
theorem kX10_isPlace (l : Launch) (dC : Nat → ClassId) (dI : Nat → Nat → Nat) (h0 : Nat) (m_world : Nat) (m_images : Nat) (m_hasImage : Nat) (m_luck : Nat) (m_tape : Nat) (m_five : Nat) (m_fresh : Nat) (m_waits : Nat) (m_figures : Nat) (m_pile : Nat) (m_times : Nat) (m_far : Nat) (m_queue : Nat) (m_months : Nat) (m_ways : Nat) (m_waysOn : Nat) (m_many : Nat) (m_width : Nat) (m_numbers : Nat) (m_moving : Nat) (cI : ClassId) (a1 : Int32) : Met l yX10_isPlace uX10_isPlace ({ frames := 1, cells := 0, slots := 0, locals := 25 }) (va_Pc [.ref h0, .int a1] (pw (dC, dI) vwCl [(h0, .inr (8, [.int 0, .ref m_world, .ref m_images, .ref m_hasImage, .ref m_luck, .ref m_tape, .int 0, .ref m_five, .int 0, .int 0, .int 0, .int 0, .int 0, .int 0, .int (-1), .ref m_fresh, .ref m_waits, .int 0, .int 0, .int 0, .ref m_figures, .ref m_pile, .long 0, .ref m_times, .ref m_far, .ref m_queue, .ref m_months, .ref m_ways, .ref m_waysOn, .ref m_many, .ref m_width, .ref m_numbers, .ref m_moving])), (m_world, .inl (cI, 1875, .inl (fun _ => 0)))] [(cI, .int)])) (vp_Si (fun r => r = 0)) 0 0 (fun _ => False) := by
  refine Met.ofW (cc := cX10_isPlace) (maxL := 2) (ret := (some .boolean)) (by decide) rfl ?_
  intro p e s m args below meth c s₁ B hml hv
  obtain ⟨rfl, hP, hK, hN⟩ := hv
  have hx := B.exec
  have hb := B.bytes
  have hr := B.returns
  have hts := atoms_spec (ws := uX10_isPlace) B.pre
  have hown : s.vm.findClass RX10 = some m.cls := findClass_of_methodNamed B.named
  have hlocks := B.notSynchronized
  have hl := lv_entry ([.ref h0, .int a1]) (n := 2) (Nat.le_of_ble_eq_true rfl)
  rw [lg_entry_eq]
  generalize (lg_sl ([.ref h0, .int a1]) ++ List.replicate (2 - (lg_sl ([.ref h0, .int a1])).length) Slot.unset).toArray = ls at hl ⊢
  have hl : lv_has ls 2 [(0, .ref h0), (1, .int a1)] := hl
  refine lv_iload_n hx hb dX10_isPlace_0 rfl (lv_at hl 1 rfl) ?_
  refine lv_i2l (v := a1.toInt64) hx hb dX10_isPlace_1 rfl ?_
  refine lv_lconst (v := 0) hx hb dX10_isPlace_2 (by decide) ?_
  refine lv_aload_n hx hb dX10_isPlace_3 rfl (lv_at hl 0 rfl) ?_
  refine va_get (D := (dC, dI)) (ci := 8) (v := .ref m_world) (C := RX10) (T := TX10) (N := 33) hx hb hts iX10_isPlace_X10 hown hK hP 0 rfl rfl 1 (by decide) (hts (.fieldLink RX10 9 "LuckyTicketModel" "world" "[I") (List.mem_of_getElem? (i := 1) rfl)) (fun _ h9 => h9) rfl dX10_isPlace_4 ?_
  refine lv_iconst (v := 0) hx hb dX10_isPlace_7 (by decide) ?_
  refine va_iald hx hb hK hP 1 0 rfl rfl (vp_in_lit (by decide)) dX10_isPlace_8 ?_
  refine lv_topi (fun z_1 ez_1 => ?_)
  obtain rfl : z_1 = 0 := ez_1
  refine lv_iconst (v := 1) hx hb dX10_isPlace_9 (by decide) ?_
  refine lv_isub hx hb dX10_isPlace_10 ?_
  refine lv_topi (fun z_2 ez_2 => ?_)
  obtain rfl : z_2 = (-1) := ez_2.trans (by decide)
  refine lv_i2l (v := (-1)) hx hb dX10_isPlace_11 (by decide) ?_
  refine vp_callSi (W.runS (As := [.long a1.toInt64, .long 0, .long (-1)]) (rest := []) ⟨hx, hb, hml, hown, hts⟩ (kX10_in_no l dC dI a1.toInt64) (va_cwS 3 hts gX10_isPlace__X10_in_no_S82 rfl rfl rfl (by decide +kernel) ⟨lel 1 1 rfl, lel 25 25 rfl⟩) ⟨pn_fb, pn_use⟩ rfl rfl hl.1 rfl (lv_room (Nat.le_of_ble_eq_true rfl)) dX10_isPlace_12 ⟨lel 0 0 rfl, lel 0 0 rfl⟩) (fun r_3 hr_3 => ?_)
  obtain rfl : r_3 = 0 := hr_3
  exact W.zret (v := 0) hx hb hr rfl (fun t ht hW => ⟨0, rfl, rfl, ht⟩) t_nil dX10_isPlace_15
theorem dX10_isRoll_0 : decode cX10_isRoll 0 = .ok (.aload_n 0, 1) := by decide +kernel
theorem dX10_isRoll_1 : decode cX10_isRoll 1 = .ok (.getfield 9, 3) := by decide +kernel
theorem dX10_isRoll_4 : decode cX10_isRoll 4 = .ok (.iconst 0, 1) := by decide +kernel
theorem dX10_isRoll_5 : decode cX10_isRoll 5 = .ok (.iaload, 1) := by decide +kernel
theorem dX10_isRoll_6 : decode cX10_isRoll 6 = .ok (.ifCond .le 7, 3) := by decide +kernel
theorem dX10_isRoll_13 : decode cX10_isRoll 13 = .ok (.iconst 0, 1) := by decide +kernel
theorem dX10_isRoll_14 : decode cX10_isRoll 14 = .ok (.ireturn, 1) := by decide +kernel
def uX10_isRoll : List Cond := .code yX10_isRoll cX10_isRoll 1 (some .boolean) :: ([.fieldLink RX10 9 "LuckyTicketModel" "world" "[I"] ++ wsX100)
theorem iX10_isRoll_X10 : ∀ w ∈ wsX100, w ∈ uX10_isRoll := fun _ h => List.mem_cons_of_mem _ (List.mem_append_right _ h)
set_option maxHeartbeats 4000000 in
set_option maxRecDepth 100000 in
theorem kX10_isRoll (l : Launch) (dC : Nat → ClassId) (dI : Nat → Nat → Nat) (h0 : Nat) (m_world : Nat) (m_images : Nat) (m_hasImage : Nat) (m_luck : Nat) (m_tape : Nat) (m_five : Nat) (m_fresh : Nat) (m_waits : Nat) (m_figures : Nat) (m_pile : Nat) (m_times : Nat) (m_far : Nat) (m_queue : Nat) (m_months : Nat) (m_ways : Nat) (m_waysOn : Nat) (m_many : Nat) (m_width : Nat) (m_numbers : Nat) (m_moving : Nat) (cI : ClassId) : Met l yX10_isRoll uX10_isRoll ({ frames := 0, cells := 0, slots := 0, locals := 0 }) (va_Pc [.ref h0] (pw (dC, dI) vwCl [(h0, .inr (8, [.int 0, .ref m_world, .ref m_images, .ref m_hasImage, .ref m_luck, .ref m_tape, .int 0, .ref m_five, .int 0, .int 0, .int 0, .int 0, .int 0, .int 0, .int (-1), .ref m_fresh, .ref m_waits, .int 0, .int 0, .int 0, .ref m_figures, .ref m_pile, .long 0, .ref m_times, .ref m_far, .ref m_queue, .ref m_months, .ref m_ways, .ref m_waysOn, .ref m_many, .ref m_width, .ref m_numbers, .ref m_moving])), (m_world, .inl (cI, 1875, .inl (fun _ => 0)))] [(cI, .int)])) (vp_Si (fun r => r = 0)) 0 0 (fun _ => False) := by
  refine Met.ofW (cc := cX10_isRoll) (maxL := 1) (ret := (some .boolean)) (by decide) rfl ?_
  intro p e s m args below meth c s₁ B hml hv
  obtain ⟨rfl, hP, hK, hN⟩ := hv
  have hx := B.exec
  have hb := B.bytes
  have hr := B.returns
  have hts := atoms_spec (ws := uX10_isRoll) B.pre
  have hown : s.vm.findClass RX10 = some m.cls := findClass_of_methodNamed B.named
  have hlocks := B.notSynchronized
  have hl := lv_entry ([.ref h0]) (n := 1) (Nat.le_of_ble_eq_true rfl)
  rw [lg_entry_eq]
  generalize (lg_sl ([.ref h0]) ++ List.replicate (1 - (lg_sl ([.ref h0])).length) Slot.unset).toArray = ls at hl ⊢
  have hl : lv_has ls 1 [(0, .ref h0)] := hl
  refine lv_aload_n hx hb dX10_isRoll_0 rfl (lv_at hl 0 rfl) ?_
  refine va_get (D := (dC, dI)) (ci := 8) (v := .ref m_world) (C := RX10) (T := TX10) (N := 33) hx hb hts iX10_isRoll_X10 hown hK hP 0 rfl rfl 1 (by decide) (hts (.fieldLink RX10 9 "LuckyTicketModel" "world" "[I") (List.mem_of_getElem? (i := 1) rfl)) (fun _ h9 => h9) rfl dX10_isRoll_1 ?_
  refine lv_iconst (v := 0) hx hb dX10_isRoll_4 (by decide) ?_
  refine va_iald hx hb hK hP 1 0 rfl rfl (vp_in_lit (by decide)) dX10_isRoll_5 ?_
  refine lv_topi (fun z_1 ez_1 => ?_)
  obtain rfl : z_1 = 0 := ez_1
  refine lv_if_le (tgt := 13) hx hb dX10_isRoll_6 (by decide) (fun _ => ?_) (fun c_2 => absurd c_2 (by decide))
  refine lv_iconst (v := 0) hx hb dX10_isRoll_13 (by decide) ?_
  exact W.zret (v := 0) hx hb hr rfl (fun t ht hW => ⟨0, rfl, rfl, ht⟩) t_nil dX10_isRoll_14
theorem dX10_isBoth_0 : decode cX10_isBoth 0 = .ok (.aload_n 0, 1) := by decide +kernel
theorem dX10_isBoth_1 : decode cX10_isBoth 1 = .ok (.iload_n 1, 1) := by decide +kernel
theorem dX10_isBoth_2 : decode cX10_isBoth 2 = .ok (.invokevirtual 89, 3) := by decide +kernel
theorem dX10_isBoth_5 : decode cX10_isBoth 5 = .ok (.ifCond .eq 16, 3) := by decide +kernel
theorem dX10_isBoth_21 : decode cX10_isBoth 21 = .ok (.iconst 0, 1) := by decide +kernel
theorem dX10_isBoth_22 : decode cX10_isBoth 22 = .ok (.ireturn, 1) := by decide +kernel
def uX10_isBoth : List Cond := .code yX10_isBoth cX10_isBoth 3 (some .boolean) :: ([.methodLink RX10 89 yX10_isLaw, .instanceMethod yX10_isLaw, .selects RX10 yX10_isLaw yX10_isLaw, .initialized RX10, .code yX10_isLaw cX10_isLaw 2 (some .boolean), .fieldLink RX10 9 "LuckyTicketModel" "world" "[I", .methodLink RX10 82 yX10_in, .static yX10_in, .code yX10_in cX10_in 6 (some .boolean)] ++ wsX100)
theorem iX10_isBoth_X10 : ∀ w ∈ wsX100, w ∈ uX10_isBoth := fun _ h => List.mem_cons_of_mem _ (List.mem_append_right _ h)
set_option maxRecDepth 20000 in
theorem gX10_isBoth__X10_isLaw_V89 : GoodIn uX10_isBoth (wsV RX10 89 RX10 yX10_isLaw uX10_isLaw) := goodIn_p _ [5, 9] rfl (by decide +kernel)
set_option maxHeartbeats 4000000 in
set_option maxRecDepth 100000 in
theorem kX10_isBoth (l : Launch) (dC : Nat → ClassId) (dI : Nat → Nat → Nat) (h0 : Nat) (m_world : Nat) (m_images : Nat) (m_hasImage : Nat) (m_luck : Nat) (m_tape : Nat) (m_five : Nat) (m_fresh : Nat) (m_waits : Nat) (m_figures : Nat) (m_pile : Nat) (m_times : Nat) (m_far : Nat) (m_queue : Nat) (m_months : Nat) (m_ways : Nat) (m_waysOn : Nat) (m_many : Nat) (m_width : Nat) (m_numbers : Nat) (m_moving : Nat) (cI : ClassId) (a1 : Int32) (a2 : Int32) : Met l yX10_isBoth uX10_isBoth ({ frames := 2, cells := 0, slots := 0, locals := 46 }) (va_Pc [.ref h0, .int a1, .int a2] (pw (dC, dI) vwCl [(h0, .inr (8, [.int 0, .ref m_world, .ref m_images, .ref m_hasImage, .ref m_luck, .ref m_tape, .int 0, .ref m_five, .int 0, .int 0, .int 0, .int 0, .int 0, .int 0, .int (-1), .ref m_fresh, .ref m_waits, .int 0, .int 0, .int 0, .ref m_figures, .ref m_pile, .long 0, .ref m_times, .ref m_far, .ref m_queue, .ref m_months, .ref m_ways, .ref m_waysOn, .ref m_many, .ref m_width, .ref m_numbers, .ref m_moving])), (m_world, .inl (cI, 1875, .inl (fun _ => 0)))] [(cI, .int)])) (vp_Si (fun r => r = 0)) 0 0 (fun _ => False) := by
  refine Met.ofW (cc := cX10_isBoth) (maxL := 3) (ret := (some .boolean)) (by decide) rfl ?_
  intro p e s m args below meth c s₁ B hml hv
  obtain ⟨rfl, hP, hK, hN⟩ := hv
  have hx := B.exec
  have hb := B.bytes
  have hr := B.returns
  have hts := atoms_spec (ws := uX10_isBoth) B.pre
  have hown : s.vm.findClass RX10 = some m.cls := findClass_of_methodNamed B.named
  have hlocks := B.notSynchronized
  have hl := lv_entry ([.ref h0, .int a1, .int a2]) (n := 3) (Nat.le_of_ble_eq_true rfl)
  rw [lg_entry_eq]
  generalize (lg_sl ([.ref h0, .int a1, .int a2]) ++ List.replicate (3 - (lg_sl ([.ref h0, .int a1, .int a2])).length) Slot.unset).toArray = ls at hl ⊢
  have hl : lv_has ls 3 [(0, .ref h0), (1, .int a1), (2, .int a2)] := hl
  refine lv_aload_n hx hb dX10_isBoth_0 rfl (lv_at hl 0 rfl) ?_
  refine lv_iload_n hx hb dX10_isBoth_1 rfl (lv_at hl 1 rfl) ?_
  refine vp_callSi (W.runV (As := [.int a1]) (rest := []) ⟨hx, hb, hml, hown, hts⟩ (kX10_isLaw l dC dI h0 m_world m_images m_hasImage m_luck m_tape m_five m_fresh m_waits m_figures m_pile m_times m_far m_queue m_months m_ways m_waysOn m_many m_width m_numbers m_moving cI a1) (cwV 1 hts gX10_isBoth__X10_isLaw_V89 rfl rfl rfl (by decide +kernel) ⟨lel 2 2 rfl, lel 46 46 rfl⟩) ⟨pw_fb, va_recv hK hP (ci := 8) (q0 := 0) rfl rfl, (pw_use hP hK hN [0, 1] rfl [0] rfl)⟩ rfl rfl hl.1 rfl (lv_room (Nat.le_of_ble_eq_true rfl)) dX10_isBoth_2 ⟨lel 0 0 rfl, lel 0 0 rfl⟩) (fun r_1 hr_1 => ?_)
  obtain rfl : r_1 = 0 := hr_1
  refine lv_if_eq (tgt := 21) hx hb dX10_isBoth_5 (by decide) (fun _ => ?_) (fun c_2 => absurd c_2 (by decide))
  refine lv_iconst (v := 0) hx hb dX10_isBoth_21 (by decide) ?_
  exact W.zret (v := 0) hx hb hr rfl (fun t ht hW => ⟨0, rfl, rfl, ht⟩) t_nil dX10_isBoth_22
theorem dX10_isSet_0 : decode cX10_isSet 0 = .ok (.aload_n 0, 1) := by decide +kernel
theorem dX10_isSet_1 : decode cX10_isSet 1 = .ok (.invokevirtual 355, 3) := by decide +kernel
theorem dX10_isSet_4 : decode cX10_isSet 4 = .ok (.ifCond .eq 27, 3) := by decide +kernel
theorem dX10_isSet_31 : decode cX10_isSet 31 = .ok (.iconst 0, 1) := by decide +kernel
theorem dX10_isSet_32 : decode cX10_isSet 32 = .ok (.ireturn, 1) := by decide +kernel
def uX10_isSet : List Cond := .code yX10_isSet cX10_isSet 2 (some .boolean) :: ([.methodLink RX10 355 yX10_isRoll, .instanceMethod yX10_isRoll, .selects RX10 yX10_isRoll yX10_isRoll, .initialized RX10, .code yX10_isRoll cX10_isRoll 1 (some .boolean), .fieldLink RX10 9 "LuckyTicketModel" "world" "[I"] ++ wsX100)
theorem iX10_isSet_X10 : ∀ w ∈ wsX100, w ∈ uX10_isSet := fun _ h => List.mem_cons_of_mem _ (List.mem_append_right _ h)
set_option maxRecDepth 20000 in
theorem gX10_isSet__X10_isRoll_V355 : GoodIn uX10_isSet (wsV RX10 355 RX10 yX10_isRoll uX10_isRoll) := goodIn_p _ [5] rfl (by decide +kernel)
set_option maxHeartbeats 4000000 in
set_option maxRecDepth 100000 in
theorem kX10_isSet (l : Launch) (dC : Nat → ClassId) (dI : Nat → Nat → Nat) (h0 : Nat) (m_world : Nat) (m_images : Nat) (m_hasImage : Nat) (m_luck : Nat) (m_tape : Nat) (m_five : Nat) (m_fresh : Nat) (m_waits : Nat) (m_figures : Nat) (m_pile : Nat) (m_times : Nat) (m_far : Nat) (m_queue : Nat) (m_months : Nat) (m_ways : Nat) (m_waysOn : Nat) (m_many : Nat) (m_width : Nat) (m_numbers : Nat) (m_moving : Nat) (cI : ClassId) (a1 : Int32) : Met l yX10_isSet uX10_isSet ({ frames := 1, cells := 0, slots := 0, locals := 20 }) (va_Pc [.ref h0, .int a1] (pw (dC, dI) vwCl [(h0, .inr (8, [.int 0, .ref m_world, .ref m_images, .ref m_hasImage, .ref m_luck, .ref m_tape, .int 0, .ref m_five, .int 0, .int 0, .int 0, .int 0, .int 0, .int 0, .int (-1), .ref m_fresh, .ref m_waits, .int 0, .int 0, .int 0, .ref m_figures, .ref m_pile, .long 0, .ref m_times, .ref m_far, .ref m_queue, .ref m_months, .ref m_ways, .ref m_waysOn, .ref m_many, .ref m_width, .ref m_numbers, .ref m_moving])), (m_world, .inl (cI, 1875, .inl (fun _ => 0)))] [(cI, .int)])) (vp_Si (fun r => r = 0)) 0 0 (fun _ => False) := by
  refine Met.ofW (cc := cX10_isSet) (maxL := 2) (ret := (some .boolean)) (by decide) rfl ?_
  intro p e s m args below meth c s₁ B hml hv
  obtain ⟨rfl, hP, hK, hN⟩ := hv
  have hx := B.exec
  have hb := B.bytes
  have hr := B.returns
  have hts := atoms_spec (ws := uX10_isSet) B.pre
  have hown : s.vm.findClass RX10 = some m.cls := findClass_of_methodNamed B.named
  have hlocks := B.notSynchronized
  have hl := lv_entry ([.ref h0, .int a1]) (n := 2) (Nat.le_of_ble_eq_true rfl)
  rw [lg_entry_eq]
  generalize (lg_sl ([.ref h0, .int a1]) ++ List.replicate (2 - (lg_sl ([.ref h0, .int a1])).length) Slot.unset).toArray = ls at hl ⊢
  have hl : lv_has ls 2 [(0, .ref h0), (1, .int a1)] := hl
  refine lv_aload_n hx hb dX10_isSet_0 rfl (lv_at hl 0 rfl) ?_
  refine vp_callSi (W.runV (As := []) (rest := []) ⟨hx, hb, hml, hown, hts⟩ (kX10_isRoll l dC dI h0 m_world m_images m_hasImage m_luck m_tape m_five m_fresh m_waits m_figures m_pile m_times m_far m_queue m_months m_ways m_waysOn m_many m_width m_numbers m_moving cI) (cwV 0 hts gX10_isSet__X10_isRoll_V355 rfl rfl rfl (by decide +kernel) ⟨lel 1 1 rfl, lel 20 20 rfl⟩) ⟨pw_fb, va_recv hK hP (ci := 8) (q0 := 0) rfl rfl, (pw_use hP hK hN [0, 1] rfl [0] rfl)⟩ rfl rfl hl.1 rfl (lv_room (Nat.le_of_ble_eq_true rfl)) dX10_isSet_1 ⟨lel 0 0 rfl, lel 0 0 rfl⟩) (fun r_1 hr_1 => ?_)
  obtain rfl : r_1 = 0 := hr_1
  refine lv_if_eq (tgt := 31) hx hb dX10_isSet_4 (by decide) (fun _ => ?_) (fun c_2 => absurd c_2 (by decide))
  refine lv_iconst (v := 0) hx hb dX10_isSet_31 (by decide) ?_
  exact W.zret (v := 0) hx hb hr rfl (fun t ht hW => ⟨0, rfl, rfl, ht⟩) t_nil dX10_isSet_32
theorem dX10_isSale_0 : decode cX10_isSale 0 = .ok (.aload_n 0, 1) := by decide +kernel
theorem dX10_isSale_1 : decode cX10_isSale 1 = .ok (.iload_n 1, 1) := by decide +kernel
theorem dX10_isSale_2 : decode cX10_isSale 2 = .ok (.invokevirtual 89, 3) := by decide +kernel
theorem dX10_isSale_5 : decode cX10_isSale 5 = .ok (.ifCond .eq 26, 3) := by decide +kernel
theorem dX10_isSale_31 : decode cX10_isSale 31 = .ok (.iconst 0, 1) := by decide +kernel
theorem dX10_isSale_32 : decode cX10_isSale 32 = .ok (.ireturn, 1) := by decide +kernel
def uX10_isSale : List Cond := .code yX10_isSale cX10_isSale 4 (some .boolean) :: ([.methodLink RX10 89 yX10_isLaw, .instanceMethod yX10_isLaw, .selects RX10 yX10_isLaw yX10_isLaw, .initialized RX10, .code yX10_isLaw cX10_isLaw 2 (some .boolean), .fieldLink RX10 9 "LuckyTicketModel" "world" "[I", .methodLink RX10 82 yX10_in, .static yX10_in, .code yX10_in cX10_in 6 (some .boolean)] ++ wsX100)
theorem iX10_isSale_X10 : ∀ w ∈ wsX100, w ∈ uX10_isSale := fun _ h => List.mem_cons_of_mem _ (List.mem_append_right _ h)
set_option maxRecDepth 20000 in
theorem gX10_isSale__X10_isLaw_V89 : GoodIn uX10_isSale (wsV RX10 89 RX10 yX10_isLaw uX10_isLaw) := goodIn_p _ [5, 9] rfl (by decide +kernel)
set_option maxHeartbeats 4000000 in
set_option maxRecDepth 100000 in
theorem kX10_isSale (l : Launch) (dC : Nat → ClassId) (dI : Nat → Nat → Nat) (h0 : Nat) (m_world : Nat) (m_images : Nat) (m_hasImage : Nat) (m_luck : Nat) (m_tape : Nat) (m_five : Nat) (m_fresh : Nat) (m_waits : Nat) (m_figures : Nat) (m_pile : Nat) (m_times : Nat) (m_far : Nat) (m_queue : Nat) (m_months : Nat) (m_ways : Nat) (m_waysOn : Nat) (m_many : Nat) (m_width : Nat) (m_numbers : Nat) (m_moving : Nat) (cI : ClassId) (a1 : Int32) (a2 : Int32) (a3 : Int32) : Met l yX10_isSale uX10_isSale ({ frames := 2, cells := 0, slots := 0, locals := 46 }) (va_Pc [.ref h0, .int a1, .int a2, .int a3] (pw (dC, dI) vwCl [(h0, .inr (8, [.int 0, .ref m_world, .ref m_images, .ref m_hasImage, .ref m_luck, .ref m_tape, .int 0, .ref m_five, .int 0, .int 0, .int 0, .int 0, .int 0, .int 0, .int (-1), .ref m_fresh, .ref m_waits, .int 0, .int 0, .int 0, .ref m_figures, .ref m_pile, .long 0, .ref m_times, .ref m_far, .ref m_queue, .ref m_months, .ref m_ways, .ref m_waysOn, .ref m_many, .ref m_width, .ref m_numbers, .ref m_moving])), (m_world, .inl (cI, 1875, .inl (fun _ => 0)))] [(cI, .int)])) (vp_Si (fun r => r = 0)) 0 0 (fun _ => False) := by
  refine Met.ofW (cc := cX10_isSale) (maxL := 4) (ret := (some .boolean)) (by decide) rfl ?_
  intro p e s m args below meth c s₁ B hml hv
  obtain ⟨rfl, hP, hK, hN⟩ := hv
  have hx := B.exec
  have hb := B.bytes
  have hr := B.returns
  have hts := atoms_spec (ws := uX10_isSale) B.pre
  have hown : s.vm.findClass RX10 = some m.cls := findClass_of_methodNamed B.named
  have hlocks := B.notSynchronized
  have hl := lv_entry ([.ref h0, .int a1, .int a2, .int a3]) (n := 4) (Nat.le_of_ble_eq_true rfl)
  rw [lg_entry_eq]
  generalize (lg_sl ([.ref h0, .int a1, .int a2, .int a3]) ++ List.replicate (4 - (lg_sl ([.ref h0, .int a1, .int a2, .int a3])).length) Slot.unset).toArray = ls at hl ⊢
  have hl : lv_has ls 4 [(0, .ref h0), (1, .int a1), (2, .int a2), (3, .int a3)] := hl
  refine lv_aload_n hx hb dX10_isSale_0 rfl (lv_at hl 0 rfl) ?_
  refine lv_iload_n hx hb dX10_isSale_1 rfl (lv_at hl 1 rfl) ?_
  refine vp_callSi (W.runV (As := [.int a1]) (rest := []) ⟨hx, hb, hml, hown, hts⟩ (kX10_isLaw l dC dI h0 m_world m_images m_hasImage m_luck m_tape m_five m_fresh m_waits m_figures m_pile m_times m_far m_queue m_months m_ways m_waysOn m_many m_width m_numbers m_moving cI a1) (cwV 1 hts gX10_isSale__X10_isLaw_V89 rfl rfl rfl (by decide +kernel) ⟨lel 2 2 rfl, lel 46 46 rfl⟩) ⟨pw_fb, va_recv hK hP (ci := 8) (q0 := 0) rfl rfl, (pw_use hP hK hN [0, 1] rfl [0] rfl)⟩ rfl rfl hl.1 rfl (lv_room (Nat.le_of_ble_eq_true rfl)) dX10_isSale_2 ⟨lel 0 0 rfl, lel 0 0 rfl⟩) (fun r_1 hr_1 => ?_)
  obtain rfl : r_1 = 0 := hr_1
  refine lv_if_eq (tgt := 31) hx hb dX10_isSale_5 (by decide) (fun _ => ?_) (fun c_2 => absurd c_2 (by decide))
  refine lv_iconst (v := 0) hx hb dX10_isSale_31 (by decide) ?_
  exact W.zret (v := 0) hx hb hr rfl (fun t ht hW => ⟨0, rfl, rfl, ht⟩) t_nil dX10_isSale_32
theorem dX10_isSlot_0 : decode cX10_isSlot 0 = .ok (.iload_n 0, 1) := by decide +kernel
theorem dX10_isSlot_1 : decode cX10_isSlot 1 = .ok (.i2l, 1) := by decide +kernel
theorem dX10_isSlot_2 : decode cX10_isSlot 2 = .ok (.lconst 0, 1) := by decide +kernel
theorem dX10_isSlot_3 : decode cX10_isSlot 3 = .ok (.ldc2_w 375, 3) := by decide +kernel
theorem dX10_isSlot_6 : decode cX10_isSlot 6 = .ok (.invokestatic 82, 3) := by decide +kernel
theorem dX10_isSlot_9 : decode cX10_isSlot 9 = .ok (.ireturn, 1) := by decide +kernel
def uX10_isSlot : List Cond := .code yX10_isSlot cX10_isSlot 1 (some .boolean) :: ([.constantLong RX10 375 (3), .methodLink RX10 82 yX10_in, .static yX10_in, .initialized RX10, .code yX10_in cX10_in 6 (some .boolean)])
set_option maxRecDepth 20000 in
theorem gX10_isSlot__X10_in_S82 : GoodIn uX10_isSlot (va_wsS RX10 82 yX10_in uX10_in) := goodIn_p _ [5] rfl (by decide +kernel)
set_option maxHeartbeats 4000000 in
set_option maxRecDepth 100000 in
theorem kX10_isSlot (l : Launch) (dC : Nat → ClassId) (dI : Nat → Nat → Nat) (a1 : Int32) : Met l yX10_isSlot uX10_isSlot ({ frames := 1, cells := 0, slots := 0, locals := 25 }) (va_Pc [.int a1] (fun _ => True)) (vp_Si (fun r => r = wi a1 0 3)) 0 0 (fun _ => False) := by
  refine Met.ofW (cc := cX10_isSlot) (maxL := 1) (ret := (some .boolean)) (by decide) rfl ?_
  intro p e s m args below meth c s₁ B hml hv
  obtain ⟨rfl, _⟩ := hv
  have hx := B.exec
  have hb := B.bytes
  have hr := B.returns
  have hts := atoms_spec (ws := uX10_isSlot) B.pre
  have hown : s.vm.findClass RX10 = some m.cls := findClass_of_methodNamed B.named
  have hlocks := B.notSynchronized
  have hl := lv_entry ([.int a1]) (n := 1) (Nat.le_of_ble_eq_true rfl)
  rw [lg_entry_eq]
  generalize (lg_sl ([.int a1]) ++ List.replicate (1 - (lg_sl ([.int a1])).length) Slot.unset).toArray = ls at hl ⊢
  have hl : lv_has ls 1 [(0, .int a1)] := hl
  refine lv_iload_n hx hb dX10_isSlot_0 rfl (lv_at hl 0 rfl) ?_
  refine lv_i2l (v := a1.toInt64) hx hb dX10_isSlot_1 rfl ?_
  refine lv_lconst (v := 0) hx hb dX10_isSlot_2 (by decide) ?_
  refine lv_ldc2 (v := 3) hx hb hown (hts (.constantLong RX10 375 (3)) (List.mem_of_getElem? (i := 1) rfl)) dX10_isSlot_3 ?_
  refine vp_callSi (W.runS (As := [.long a1.toInt64, .long 0, .long 3]) (rest := []) ⟨hx, hb, hml, hown, hts⟩ (kX10_in l dC dI a1.toInt64 0 3) (va_cwS 3 hts gX10_isSlot__X10_in_S82 rfl rfl rfl (by decide +kernel) ⟨lel 1 1 rfl, lel 25 25 rfl⟩) ⟨pn_fb, pn_use⟩ rfl rfl hl.1 rfl (lv_room (Nat.le_of_ble_eq_true rfl)) dX10_isSlot_6 ⟨lel 0 0 rfl, lel 0 0 rfl⟩) (fun r_1 hr_1 => ?_)
  exact W.zret (v := r_1) hx hb hr (by rw [hr_1]; exact inr_n _ _ _) (fun t ht hW => ⟨r_1, rfl, hr_1.trans (inr_wi a1 0 3), ht⟩) t_nil dX10_isSlot_9
theorem dX10_asksWorn_0 : decode cX10_asksWorn 0 = .ok (.iload_n 1, 1) := by decide +kernel
theorem dX10_asksWorn_1 : decode cX10_asksWorn 1 = .ok (.invokestatic 369, 3) := by decide +kernel
theorem dX10_asksWorn_4 : decode cX10_asksWorn 4 = .ok (.ifCond .eq 7, 3) := by decide +kernel
theorem dX10_asksWorn_7 : decode cX10_asksWorn 7 = .ok (.iload_n 2, 1) := by decide +kernel
theorem dX10_asksWorn_8 : decode cX10_asksWorn 8 = .ok (.ifCond .ne 6, 3) := by decide +kernel
theorem dX10_asksWorn_11 : decode cX10_asksWorn 11 = .ok (.bipush (-2), 2) := by decide +kernel
theorem dX10_asksWorn_13 : decode cX10_asksWorn 13 = .ok (.ireturn, 1) := by decide +kernel
def uX10_asksWorn : List Cond := .code yX10_asksWorn cX10_asksWorn 3 (some .int) :: ([.methodLink RX10 369 yX10_isSlot, .static yX10_isSlot, .initialized RX10, .code yX10_isSlot cX10_isSlot 1 (some .boolean), .constantLong RX10 375 (3), .methodLink RX10 82 yX10_in, .static yX10_in, .code yX10_in cX10_in 6 (some .boolean)])
set_option maxRecDepth 20000 in
theorem gX10_asksWorn__X10_isSlot_S369 : GoodIn uX10_asksWorn (va_wsS RX10 369 yX10_isSlot uX10_isSlot) := goodIn_p _ [4, 8] rfl (by decide +kernel)
set_option maxHeartbeats 4000000 in
set_option maxRecDepth 100000 in
theorem kX10_asksWorn (l : Launch) (dC : Nat → ClassId) (dI : Nat → Nat → Nat) (h0 : Nat) (m_world : Nat) (m_images : Nat) (m_hasImage : Nat) (m_luck : Nat) (m_tape : Nat) (m_five : Nat) (m_fresh : Nat) (m_waits : Nat) (m_figures : Nat) (m_pile : Nat) (m_times : Nat) (m_far : Nat) (m_queue : Nat) (m_months : Nat) (m_ways : Nat) (m_waysOn : Nat) (m_many : Nat) (m_width : Nat) (m_numbers : Nat) (m_moving : Nat) (cI : ClassId) (a1 : Int32) : Met l yX10_asksWorn uX10_asksWorn ({ frames := 2, cells := 0, slots := 0, locals := 45 }) (va_Pc [.ref h0, .int a1, .int 0] (pw (dC, dI) vwCl [(h0, .inr (8, [.int 0, .ref m_world, .ref m_images, .ref m_hasImage, .ref m_luck, .ref m_tape, .int 0, .ref m_five, .int 0, .int 0, .int 0, .int 0, .int 0, .int 0, .int (-1), .ref m_fresh, .ref m_waits, .int 0, .int 0, .int 0, .ref m_figures, .ref m_pile, .long 0, .ref m_times, .ref m_far, .ref m_queue, .ref m_months, .ref m_ways, .ref m_waysOn, .ref m_many, .ref m_width, .ref m_numbers, .ref m_moving])), (m_world, .inl (cI, 1875, .inl (fun _ => 0)))] [(cI, .int)])) (vp_Si (fun r => r = (-2))) 0 0 (fun _ => False) := by
  refine Met.ofW (cc := cX10_asksWorn) (maxL := 3) (ret := (some .int)) (by decide) rfl ?_
  intro p e s m args below meth c s₁ B hml hv
  obtain ⟨rfl, hP, hK, hN⟩ := hv
  have hx := B.exec
  have hb := B.bytes
  have hr := B.returns
  have hts := atoms_spec (ws := uX10_asksWorn) B.pre
  have hown : s.vm.findClass RX10 = some m.cls := findClass_of_methodNamed B.named
  have hlocks := B.notSynchronized
  have hl := lv_entry ([.ref h0, .int a1, .int 0]) (n := 3) (Nat.le_of_ble_eq_true rfl)
  rw [lg_entry_eq]
  generalize (lg_sl ([.ref h0, .int a1, .int 0]) ++ List.replicate (3 - (lg_sl ([.ref h0, .int a1, .int 0])).length) Slot.unset).toArray = ls at hl ⊢
  have hl : lv_has ls 3 [(0, .ref h0), (1, .int a1), (2, .int 0)] := hl
  refine lv_iload_n hx hb dX10_asksWorn_0 rfl (lv_at hl 1 rfl) ?_
  refine vp_callSi (W.runS (As := [.int a1]) (rest := []) ⟨hx, hb, hml, hown, hts⟩ (kX10_isSlot l dC dI a1) (va_cwS 1 hts gX10_asksWorn__X10_isSlot_S369 rfl rfl rfl (by decide +kernel) ⟨lel 2 2 rfl, lel 45 45 rfl⟩) ⟨pn_fb, pn_use⟩ rfl rfl hl.1 rfl (lv_room (Nat.le_of_ble_eq_true rfl)) dX10_asksWorn_1 ⟨lel 0 0 rfl, lel 0 0 rfl⟩) (fun r_1 hr_1 => ?_)
  refine lv_if_eq (tgt := 11) hx hb dX10_asksWorn_4 (by decide) (fun c_2 => ?_) (fun c_2 => ?_)
  ·
    refine lv_bipush (v := (-2)) hx hb dX10_asksWorn_11 (by decide) ?_
    exact W.iret (v := (-2)) hx hb hr (fun t ht hW => ⟨(-2), rfl, rfl, ht⟩) t_nil dX10_asksWorn_13
  ·
    refine lv_iload_n hx hb dX10_asksWorn_7 rfl (lv_at hl 2 rfl) ?_
    refine lv_if_ne (tgt := 14) hx hb dX10_asksWorn_8 (by decide) (fun c_3 => absurd c_3 (by decide)) (fun _ => ?_)
    refine lv_bipush (v := (-2)) hx hb dX10_asksWorn_11 (by decide) ?_
    exact W.iret (v := (-2)) hx hb hr (fun t ht hW => ⟨(-2), rfl, rfl, ht⟩) t_nil dX10_asksWorn_13
theorem dX10_asksRow_0 : decode cX10_asksRow 0 = .ok (.iload_n 1, 1) := by decide +kernel
theorem dX10_asksRow_1 : decode cX10_asksRow 1 = .ok (.invokestatic 369, 3) := by decide +kernel
theorem dX10_asksRow_4 : decode cX10_asksRow 4 = .ok (.ifCond .eq 11, 3) := by decide +kernel
theorem dX10_asksRow_7 : decode cX10_asksRow 7 = .ok (.aload_n 0, 1) := by decide +kernel
theorem dX10_asksRow_8 : decode cX10_asksRow 8 = .ok (.iload_n 2, 1) := by decide +kernel
theorem dX10_asksRow_9 : decode cX10_asksRow 9 = .ok (.invokevirtual 89, 3) := by decide +kernel
theorem dX10_asksRow_12 : decode cX10_asksRow 12 = .ok (.ifCond .ne 6, 3) := by decide +kernel
theorem dX10_asksRow_15 : decode cX10_asksRow 15 = .ok (.bipush (-2), 2) := by decide +kernel
theorem dX10_asksRow_17 : decode cX10_asksRow 17 = .ok (.ireturn, 1) := by decide +kernel
def uX10_asksRow : List Cond := .code yX10_asksRow cX10_asksRow 3 (some .int) :: ([.methodLink RX10 369 yX10_isSlot, .static yX10_isSlot, .initialized RX10, .code yX10_isSlot cX10_isSlot 1 (some .boolean), .constantLong RX10 375 (3), .methodLink RX10 82 yX10_in, .static yX10_in, .code yX10_in cX10_in 6 (some .boolean), .methodLink RX10 89 yX10_isLaw, .instanceMethod yX10_isLaw, .selects RX10 yX10_isLaw yX10_isLaw, .code yX10_isLaw cX10_isLaw 2 (some .boolean), .fieldLink RX10 9 "LuckyTicketModel" "world" "[I"] ++ wsX100)
theorem iX10_asksRow_X10 : ∀ w ∈ wsX100, w ∈ uX10_asksRow := fun _ h => List.mem_cons_of_mem _ (List.mem_append_right _ h)
set_option maxRecDepth 20000 in
theorem gX10_asksRow__X10_isSlot_S369 : GoodIn uX10_asksRow (va_wsS RX10 369 yX10_isSlot uX10_isSlot) := goodIn_p _ [4, 8] rfl (by decide +kernel)
set_option maxRecDepth 20000 in
theorem gX10_asksRow__X10_isLaw_V89 : GoodIn uX10_asksRow (wsV RX10 89 RX10 yX10_isLaw uX10_isLaw) := goodIn_p _ [12, 8] rfl (by decide +kernel)
set_option maxHeartbeats 4000000 in
set_option maxRecDepth 100000 in
theorem kX10_asksRow (l : Launch) (dC : Nat → ClassId) (dI : Nat → Nat → Nat) (h0 : Nat) (m_world : Nat) (m_images : Nat) (m_hasImage : Nat) (m_luck : Nat) (m_tape : Nat) (m_five : Nat) (m_fresh : Nat) (m_waits : Nat) (m_figures : Nat) (m_pile : Nat) (m_times : Nat) (m_far : Nat) (m_queue : Nat) (m_months : Nat) (m_ways : Nat) (m_waysOn : Nat) (m_many : Nat) (m_width : Nat) (m_numbers : Nat) (m_moving : Nat) (cI : ClassId) (a1 : Int32) (a2 : Int32) : Met l yX10_asksRow uX10_asksRow ({ frames := 2, cells := 0, slots := 0, locals := 46 }) (va_Pc [.ref h0, .int a1, .int a2] (pw (dC, dI) vwCl [(h0, .inr (8, [.int 0, .ref m_world, .ref m_images, .ref m_hasImage, .ref m_luck, .ref m_tape, .int 0, .ref m_five, .int 0, .int 0, .int 0, .int 0, .int 0, .int 0, .int (-1), .ref m_fresh, .ref m_waits, .int 0, .int 0, .int 0, .ref m_figures, .ref m_pile, .long 0, .ref m_times, .ref m_far, .ref m_queue, .ref m_months, .ref m_ways, .ref m_waysOn, .ref m_many, .ref m_width, .ref m_numbers, .ref m_moving])), (m_world, .inl (cI, 1875, .inl (fun _ => 0)))] [(cI, .int)])) (vp_Si (fun r => r = (-2))) 0 0 (fun _ => False) := by
  refine Met.ofW (cc := cX10_asksRow) (maxL := 3) (ret := (some .int)) (by decide) rfl ?_
  intro p e s m args below meth c s₁ B hml hv
  obtain ⟨rfl, hP, hK, hN⟩ := hv
  have hx := B.exec
  have hb := B.bytes
  have hr := B.returns
  have hts := atoms_spec (ws := uX10_asksRow) B.pre
  have hown : s.vm.findClass RX10 = some m.cls := findClass_of_methodNamed B.named
  have hlocks := B.notSynchronized
  have hl := lv_entry ([.ref h0, .int a1, .int a2]) (n := 3) (Nat.le_of_ble_eq_true rfl)
  rw [lg_entry_eq]
  generalize (lg_sl ([.ref h0, .int a1, .int a2]) ++ List.replicate (3 - (lg_sl ([.ref h0, .int a1, .int a2])).length) Slot.unset).toArray = ls at hl ⊢
  have hl : lv_has ls 3 [(0, .ref h0), (1, .int a1), (2, .int a2)] := hl
  refine lv_iload_n hx hb dX10_asksRow_0 rfl (lv_at hl 1 rfl) ?_
  refine vp_callSi (W.runS (As := [.int a1]) (rest := []) ⟨hx, hb, hml, hown, hts⟩ (kX10_isSlot l dC dI a1) (va_cwS 1 hts gX10_asksRow__X10_isSlot_S369 rfl rfl rfl (by decide +kernel) ⟨lel 2 2 rfl, lel 45 46 rfl⟩) ⟨pn_fb, pn_use⟩ rfl rfl hl.1 rfl (lv_room (Nat.le_of_ble_eq_true rfl)) dX10_asksRow_1 ⟨lel 0 0 rfl, lel 0 0 rfl⟩) (fun r_1 hr_1 => ?_)
  refine lv_if_eq (tgt := 15) hx hb dX10_asksRow_4 (by decide) (fun c_2 => ?_) (fun c_2 => ?_)
  ·
    refine lv_bipush (v := (-2)) hx hb dX10_asksRow_15 (by decide) ?_
    exact W.iret (v := (-2)) hx hb hr (fun t ht hW => ⟨(-2), rfl, rfl, ht⟩) t_nil dX10_asksRow_17
  ·
    refine lv_aload_n hx hb dX10_asksRow_7 rfl (lv_at hl 0 rfl) ?_
    refine lv_iload_n hx hb dX10_asksRow_8 rfl (lv_at hl 2 rfl) ?_
    refine vp_callSi (W.runV (As := [.int a2]) (rest := []) ⟨hx, hb, hml, hown, hts⟩ (kX10_isLaw l dC dI h0 m_world m_images m_hasImage m_luck m_tape m_five m_fresh m_waits m_figures m_pile m_times m_far m_queue m_months m_ways m_waysOn m_many m_width m_numbers m_moving cI a2) (cwV 1 hts gX10_asksRow__X10_isLaw_V89 rfl rfl rfl (by decide +kernel) ⟨lel 2 2 rfl, lel 46 46 rfl⟩) ⟨pw_fb, va_recv hK hP (ci := 8) (q0 := 0) rfl rfl, (pw_use hP hK hN [0, 1] rfl [0] rfl)⟩ rfl rfl hl.1 rfl (lv_room (Nat.le_of_ble_eq_true rfl)) dX10_asksRow_9 ⟨lel 0 0 rfl, lel 0 0 rfl⟩) (fun r_3 hr_3 => ?_)
    obtain rfl : r_3 = 0 := hr_3
    refine lv_if_ne (tgt := 18) hx hb dX10_asksRow_12 (by decide) (fun c_4 => absurd c_4 (by decide)) (fun _ => ?_)
    refine lv_bipush (v := (-2)) hx hb dX10_asksRow_15 (by decide) ?_
    exact W.iret (v := (-2)) hx hb hr (fun t ht hW => ⟨(-2), rfl, rfl, ht⟩) t_nil dX10_asksRow_17
end
section
theorem na_int (cA : ClassId) (n : Nat) : vp_cell cA (n, .inl (fun _ => 0)) = arrV cA n (fun _ => defaultValue .int) := rfl
theorem na_byte (cA : ClassId) (n : Nat) : vp_cell cA (n, .inl (fun _ => 0)) = arrV cA n (fun _ => defaultValue .byte) := rfl
theorem na_boolean (cA : ClassId) (n : Nat) : vp_cell cA (n, .inl (fun _ => 0)) = arrV cA n (fun _ => defaultValue .boolean) := rfl
theorem na_long (cA : ClassId) (n : Nat) : vp_cell cA (n, .inr (.inl (fun _ => 0))) = arrV cA n (fun _ => defaultValue .long) := rfl
theorem dX7_init_0 : decode cX7_init 0 = .ok (.aload_n 0, 1) := by decide +kernel
theorem dX7_init_1 : decode cX7_init 1 = .ok (.invokespecial 1, 3) := by decide +kernel
theorem dX7_init_4 : decode cX7_init 4 = .ok (.aload_n 0, 1) := by decide +kernel
theorem dX7_init_5 : decode cX7_init 5 = .ok (.sipush 1200, 3) := by decide +kernel
theorem dX7_init_8 : decode cX7_init 8 = .ok (.newarray .byte, 2) := by decide +kernel
theorem dX7_init_10 : decode cX7_init 10 = .ok (.putfield 9, 3) := by decide +kernel
theorem dX7_init_13 : decode cX7_init 13 = .ok (.return_, 1) := by decide +kernel
def uX7_init : List Cond := .code yX7_init cX7_init 1 none :: ([.methodLink RX7 1 objectInit, .instanceMethod objectInit, .code objectInit ⟨#[0xb1]⟩ 1 none, .arrayClass .byte, .fieldLink RX7 9 "LuckyTicket$Tape" "bytes" "[B"] ++ wsX70)
theorem iX7_init_X7 : ∀ w ∈ wsX70, w ∈ uX7_init := fun _ h => List.mem_cons_of_mem _ (List.mem_append_right _ h)
set_option maxHeartbeats 4000000 in
set_option maxRecDepth 100000 in
theorem kX7_init (l : Launch) (dC : Nat → ClassId) (dI : Nat → Nat → Nat) (h0 : Nat) (sz : Nat) : Met l yX7_init uX7_init ({ frames := 1, cells := 1, slots := 1200, locals := 12 }) (va_Pc [.ref h0] (hw (dC, dI) vwCl [(h0, .inr (6, [.null, .int 0]))] [] sz)) (va_Qv (fun (_ : Unit) => True) (fun (_ : Unit) t => ∃ (q_1 : Nat) (cA_2 : ClassId), va_P (dC, dI) vwCl [(h0, .inr (6, [.ref q_1, .int 0])), (q_1, .inl (cA_2, 1200, .inl (fun _ => 0)))] t.heap ∧ va_K (dC, dI) vwCl [(cA_2, .byte)] t ∧ va_D (va_A [(h0, .inr (6, [.null, .int 0]))] sz) [(h0, .inr (6, [.ref q_1, .int 0])), (q_1, .inl (cA_2, 1200, .inl (fun _ => 0)))]) (va_A [(h0, .inr (6, [.null, .int 0]))] sz)) 1 1200 (va_A [(h0, .inr (6, [.null, .int 0]))] sz) := by
  refine Met.ofW (cc := cX7_init) (maxL := 1) (ret := none) (by decide) rfl ?_
  intro p e s m args below meth c s₁ B hml hv
  obtain ⟨rfl, hsz, hP, hK, hD0, hN⟩ := hv
  have hx := B.exec
  have hb := B.bytes
  have hr := B.returns
  have hts := atoms_spec (ws := uX7_init) B.pre
  have hown : s.vm.findClass RX7 = some m.cls := findClass_of_methodNamed B.named
  have hlocks := B.notSynchronized
  have hin : meth.name = "<init>" := (name_of_methodNamed B.named B.method).1
  subst hsz
  have hD := hD0.self (sz := s.heap.size)
  generalize hAe : va_A [(h0, .inr (6, [.null, .int 0]))] s.heap.size = A at hD ⊢
  have hA : ∀ q : Nat, s.heap.size ≤ q → A q := fun q h => by rw [← hAe]; exact Or.inr h
  have hS : va_S A s.heap s.heap [] := va_S.rf
  have hP : va_P (dC, dI) vwCl [(h0, .inr (6, [.null, .int 0]))] s.heap := hP
  have hl := lv_entry ([.ref h0]) (n := 1) (Nat.le_of_ble_eq_true rfl)
  rw [lg_entry_eq]
  generalize (lg_sl ([.ref h0]) ++ List.replicate (1 - (lg_sl ([.ref h0])).length) Slot.unset).toArray = ls at hl ⊢
  have hl : lv_has ls 1 [(0, .ref h0)] := hl
  refine lv_aload_n hx hb dX7_init_0 rfl (lv_at hl 0 rfl) ?_
  refine W.objInit hx hb hown (hts (.methodLink RX7 1 objectInit) (List.mem_of_getElem? (i := 1) rfl)) (hts (.instanceMethod objectInit) (List.mem_of_getElem? (i := 2) rfl)) (hts (.code objectInit ⟨#[0xb1]⟩ 1 none) (List.mem_of_getElem? (i := 3) rfl)) rfl (by rw [hml]; exact hl.1) rfl dX7_init_1 (Nat.le_of_ble_eq_true rfl) (Nat.le_of_ble_eq_true rfl) ?_
  refine W.eq (g2 := F0 m 4 ls []) rfl ?_
  refine lv_aload_n hx hb dX7_init_4 rfl (lv_at hl 0 rfl) ?_
  refine lv_sipush (v := 1200) hx hb dX7_init_5 (by decide) ?_
  refine va_newa (atype := .byte) (ty := .byte) (a0 := (1200, .inl (fun _ => 0))) (N' := 1200) hx hb (hts (.arrayClass .byte) (List.mem_of_getElem? (i := 4) rfl)) rfl hK hP hD hS hA (fun cA => na_byte cA 1200) (by decide) (by decide) (by decide) (lel 1 1 rfl) (lel 1200 1200 rfl) dX7_init_8 (fun q_1 cA_2 H hK hP hD hS => ?_)
  have hP : va_P (dC, dI) vwCl [(h0, .inr (6, [.null, .int 0])), (q_1, .inl (cA_2, 1200, .inl (fun _ => 0)))] H := hP
  have hD : va_D A [(h0, .inr (6, [.null, .int 0])), (q_1, .inl (cA_2, 1200, .inl (fun _ => 0)))] := hD
  have hK : va_K (dC, dI) vwCl [(cA_2, .byte)] s := hK
  refine W.widen (k := 1) (n := 1200) (lel _ _ rfl) (lel _ _ rfl) ?_
  refine va_putF (D := (dC, dI)) (ci := 6) (v := .ref q_1) (ty := .array .byte) (C := RX7) (T := TX7) (N := 2) hx hb hts iX7_init_X7 tyX7 tyX7_ok nmX7 hown hK hP hD hS 0 rfl rfl 0 (by decide) (hts (.fieldLink RX7 9 "LuckyTicket$Tape" "bytes" "[B") (List.mem_of_getElem? (i := 5) rfl)) (fun _ h9 => h9) rfl hin rfl (by decide +kernel) rfl rfl (Nat.le_of_ble_eq_true rfl) dX7_init_10 (fun H locs hP hD hS => ?_)
  have hP : va_P (dC, dI) vwCl [(h0, .inr (6, [.ref q_1, .int 0])), (q_1, .inl (cA_2, 1200, .inl (fun _ => 0)))] H := hP
  have hD : va_D A [(h0, .inr (6, [.ref q_1, .int 0])), (q_1, .inl (cA_2, 1200, .inl (fun _ => 0)))] := hD
  have hP9 := hP.sub (ws' := [(h0, .inr (6, [.ref q_1, .int 0])), (q_1, .inl (cA_2, 1200, .inl (fun _ => 0)))]) [0, 1] rfl
  have hD9 := hD.sub (ws' := [(h0, .inr (6, [.ref q_1, .int 0])), (q_1, .inl (cA_2, 1200, .inl (fun _ => 0)))]) [0, 1] (by decide) rfl
  have hK9 := hK.sub (tys' := [(cA_2, .byte)]) [0] rfl
  exact W.vret hx hb hr (fun t ht hW => ⟨⟨(), rfl, trivial, q_1, cA_2, by rw [ht]; exact hP9, va_K.moved hW.alike hK9, hD9⟩, hS.F ht⟩) hS.2.2 dX7_init_13
theorem dX4_init_0 : decode cX4_init 0 = .ok (.aload_n 0, 1) := by decide +kernel
theorem dX4_init_1 : decode cX4_init 1 = .ok (.invokespecial 5, 3) := by decide +kernel
theorem dX4_init_4 : decode cX4_init 4 = .ok (.aload_n 0, 1) := by decide +kernel
theorem dX4_init_5 : decode cX4_init 5 = .ok (.bipush 9, 2) := by decide +kernel
theorem dX4_init_7 : decode cX4_init 7 = .ok (.newarray .int, 2) := by decide +kernel
theorem dX4_init_9 : decode cX4_init 9 = .ok (.putfield 11, 3) := by decide +kernel
theorem dX4_init_12 : decode cX4_init 12 = .ok (.aload_n 0, 1) := by decide +kernel
theorem dX4_init_13 : decode cX4_init 13 = .ok (.sipush 600, 3) := by decide +kernel
theorem dX4_init_16 : decode cX4_init 16 = .ok (.newarray .int, 2) := by decide +kernel
theorem dX4_init_18 : decode cX4_init 18 = .ok (.putfield 17, 3) := by decide +kernel
theorem dX4_init_21 : decode cX4_init 21 = .ok (.aload_n 0, 1) := by decide +kernel
theorem dX4_init_22 : decode cX4_init 22 = .ok (.sipush 600, 3) := by decide +kernel
theorem dX4_init_25 : decode cX4_init 25 = .ok (.newarray .long, 2) := by decide +kernel
theorem dX4_init_27 : decode cX4_init 27 = .ok (.putfield 20, 3) := by decide +kernel
theorem dX4_init_30 : decode cX4_init 30 = .ok (.aload_n 0, 1) := by decide +kernel
theorem dX4_init_31 : decode cX4_init 31 = .ok (.sipush 600, 3) := by decide +kernel
theorem dX4_init_34 : decode cX4_init 34 = .ok (.newarray .long, 2) := by decide +kernel
theorem dX4_init_36 : decode cX4_init 36 = .ok (.putfield 24, 3) := by decide +kernel
theorem dX4_init_39 : decode cX4_init 39 = .ok (.return_, 1) := by decide +kernel
def uX4_init : List Cond := .code yX4_init cX4_init 1 none :: ([.methodLink RX4 5 objectInit, .instanceMethod objectInit, .code objectInit ⟨#[0xb1]⟩ 1 none, .arrayClass .int, .fieldLink RX4 11 "LuckyTicket$Script" "ends" "[I", .fieldLink RX4 17 "LuckyTicket$Script" "kinds" "[I", .arrayClass .long, .fieldLink RX4 20 "LuckyTicket$Script" "ones" "[J", .fieldLink RX4 24 "LuckyTicket$Script" "others" "[J"] ++ wsX40)
theorem iX4_init_X4 : ∀ w ∈ wsX40, w ∈ uX4_init := fun _ h => List.mem_cons_of_mem _ (List.mem_append_right _ h)
set_option maxHeartbeats 4000000 in
set_option maxRecDepth 100000 in
theorem kX4_init (l : Launch) (dC : Nat → ClassId) (dI : Nat → Nat → Nat) (h0 : Nat) (sz : Nat) : Met l yX4_init uX4_init ({ frames := 1, cells := 4, slots := 1809, locals := 12 }) (va_Pc [.ref h0] (hw (dC, dI) vwCl [(h0, .inr (3, [.int 0, .int 0, .int 0, .int 0, .int 0, .null, .null, .null, .null]))] [] sz)) (va_Qv (fun (_ : Unit) => True) (fun (_ : Unit) t => ∃ (q_1 : Nat) (q_3 : Nat) (q_5 : Nat) (q_7 : Nat) (cA_2 : ClassId) (cA_4 : ClassId) (cA_6 : ClassId) (cA_8 : ClassId), va_P (dC, dI) vwCl [(h0, .inr (3, [.int 0, .int 0, .int 0, .int 0, .int 0, .ref q_1, .ref q_3, .ref q_5, .ref q_7])), (q_1, .inl (cA_2, 9, .inl (fun _ => 0))), (q_3, .inl (cA_4, 600, .inl (fun _ => 0))), (q_5, .inl (cA_6, 600, .inr (.inl (fun _ => 0)))), (q_7, .inl (cA_8, 600, .inr (.inl (fun _ => 0))))] t.heap ∧ va_K (dC, dI) vwCl [(cA_2, .int), (cA_4, .int), (cA_6, .long), (cA_8, .long)] t ∧ va_D (va_A [(h0, .inr (3, [.int 0, .int 0, .int 0, .int 0, .int 0, .null, .null, .null, .null]))] sz) [(h0, .inr (3, [.int 0, .int 0, .int 0, .int 0, .int 0, .ref q_1, .ref q_3, .ref q_5, .ref q_7])), (q_1, .inl (cA_2, 9, .inl (fun _ => 0))), (q_3, .inl (cA_4, 600, .inl (fun _ => 0))), (q_5, .inl (cA_6, 600, .inr (.inl (fun _ => 0)))), (q_7, .inl (cA_8, 600, .inr (.inl (fun _ => 0))))]) (va_A [(h0, .inr (3, [.int 0, .int 0, .int 0, .int 0, .int 0, .null, .null, .null, .null]))] sz)) 4 1809 (va_A [(h0, .inr (3, [.int 0, .int 0, .int 0, .int 0, .int 0, .null, .null, .null, .null]))] sz) := by
  refine Met.ofW (cc := cX4_init) (maxL := 1) (ret := none) (by decide) rfl ?_
  intro p e s m args below meth c s₁ B hml hv
  obtain ⟨rfl, hsz, hP, hK, hD0, hN⟩ := hv
  have hx := B.exec
  have hb := B.bytes
  have hr := B.returns
  have hts := atoms_spec (ws := uX4_init) B.pre
  have hown : s.vm.findClass RX4 = some m.cls := findClass_of_methodNamed B.named
  have hlocks := B.notSynchronized
  have hin : meth.name = "<init>" := (name_of_methodNamed B.named B.method).1
  subst hsz
  have hD := hD0.self (sz := s.heap.size)
  generalize hAe : va_A [(h0, .inr (3, [.int 0, .int 0, .int 0, .int 0, .int 0, .null, .null, .null, .null]))] s.heap.size = A at hD ⊢
  have hA : ∀ q : Nat, s.heap.size ≤ q → A q := fun q h => by rw [← hAe]; exact Or.inr h
  have hS : va_S A s.heap s.heap [] := va_S.rf
  have hP : va_P (dC, dI) vwCl [(h0, .inr (3, [.int 0, .int 0, .int 0, .int 0, .int 0, .null, .null, .null, .null]))] s.heap := hP
  have hl := lv_entry ([.ref h0]) (n := 1) (Nat.le_of_ble_eq_true rfl)
  rw [lg_entry_eq]
  generalize (lg_sl ([.ref h0]) ++ List.replicate (1 - (lg_sl ([.ref h0])).length) Slot.unset).toArray = ls at hl ⊢
  have hl : lv_has ls 1 [(0, .ref h0)] := hl
  refine lv_aload_n hx hb dX4_init_0 rfl (lv_at hl 0 rfl) ?_
  refine W.objInit hx hb hown (hts (.methodLink RX4 5 objectInit) (List.mem_of_getElem? (i := 1) rfl)) (hts (.instanceMethod objectInit) (List.mem_of_getElem? (i := 2) rfl)) (hts (.code objectInit ⟨#[0xb1]⟩ 1 none) (List.mem_of_getElem? (i := 3) rfl)) rfl (by rw [hml]; exact hl.1) rfl dX4_init_1 (Nat.le_of_ble_eq_true rfl) (Nat.le_of_ble_eq_true rfl) ?_
  refine W.eq (g2 := F0 m 4 ls []) rfl ?_
  refine lv_aload_n hx hb dX4_init_4 rfl (lv_at hl 0 rfl) ?_
  refine lv_bipush (v := 9) hx hb dX4_init_5 (by decide) ?_
  refine va_newa (atype := .int) (ty := .int) (a0 := (9, .inl (fun _ => 0))) (N' := 9) hx hb (hts (.arrayClass .int) (List.mem_of_getElem? (i := 4) rfl)) rfl hK hP hD hS hA (fun cA => na_int cA 9) (by decide) (by decide) (by decide) (lel 1 4 rfl) (lel 9 1809 rfl) dX4_init_7 (fun q_1 cA_2 H hK hP hD hS => ?_)
  have hP : va_P (dC, dI) vwCl [(h0, .inr (3, [.int 0, .int 0, .int 0, .int 0, .int 0, .null, .null, .null, .null])), (q_1, .inl (cA_2, 9, .inl (fun _ => 0)))] H := hP
  have hD : va_D A [(h0, .inr (3, [.int 0, .int 0, .int 0, .int 0, .int 0, .null, .null, .null, .null])), (q_1, .inl (cA_2, 9, .inl (fun _ => 0)))] := hD
  have hK : va_K (dC, dI) vwCl [(cA_2, .int)] s := hK
  refine W.widen (k := 1) (n := 9) (lel _ _ rfl) (lel _ _ rfl) ?_
  refine va_putF (D := (dC, dI)) (ci := 3) (v := .ref q_1) (ty := .array .int) (C := RX4) (T := TX4) (N := 9) hx hb hts iX4_init_X4 tyX4 tyX4_ok nmX4 hown hK hP hD hS 0 rfl rfl 5 (by decide) (hts (.fieldLink RX4 11 "LuckyTicket$Script" "ends" "[I") (List.mem_of_getElem? (i := 5) rfl)) (fun _ h9 => h9) rfl hin rfl (by decide +kernel) rfl rfl (Nat.le_of_ble_eq_true rfl) dX4_init_9 (fun H locs hP hD hS => ?_)
  have hP : va_P (dC, dI) vwCl [(h0, .inr (3, [.int 0, .int 0, .int 0, .int 0, .int 0, .ref q_1, .null, .null, .null])), (q_1, .inl (cA_2, 9, .inl (fun _ => 0)))] H := hP
  have hD : va_D A [(h0, .inr (3, [.int 0, .int 0, .int 0, .int 0, .int 0, .ref q_1, .null, .null, .null])), (q_1, .inl (cA_2, 9, .inl (fun _ => 0)))] := hD
  refine lv_aload_n hx hb dX4_init_12 rfl (lv_at hl 0 rfl) ?_
  refine lv_sipush (v := 600) hx hb dX4_init_13 (by decide) ?_
  refine va_newa (atype := .int) (ty := .int) (a0 := (600, .inl (fun _ => 0))) (N' := 600) hx hb (hts (.arrayClass .int) (List.mem_of_getElem? (i := 4) rfl)) rfl hK hP hD hS hA (fun cA => na_int cA 600) (by decide) (by decide) (by decide) (lel 2 4 rfl) (lel 609 1809 rfl) dX4_init_16 (fun q_3 cA_4 H hK hP hD hS => ?_)
  have hP : va_P (dC, dI) vwCl [(h0, .inr (3, [.int 0, .int 0, .int 0, .int 0, .int 0, .ref q_1, .null, .null, .null])), (q_1, .inl (cA_2, 9, .inl (fun _ => 0))), (q_3, .inl (cA_4, 600, .inl (fun _ => 0)))] H := hP
  have hD : va_D A [(h0, .inr (3, [.int 0, .int 0, .int 0, .int 0, .int 0, .ref q_1, .null, .null, .null])), (q_1, .inl (cA_2, 9, .inl (fun _ => 0))), (q_3, .inl (cA_4, 600, .inl (fun _ => 0)))] := hD
  have hK : va_K (dC, dI) vwCl [(cA_2, .int), (cA_4, .int)] s := hK
  refine W.widen (k := 2) (n := 609) (lel _ _ rfl) (lel _ _ rfl) ?_
  refine va_putF (D := (dC, dI)) (ci := 3) (v := .ref q_3) (ty := .array .int) (C := RX4) (T := TX4) (N := 9) hx hb hts iX4_init_X4 tyX4 tyX4_ok nmX4 hown hK hP hD hS 0 rfl rfl 6 (by decide) (hts (.fieldLink RX4 17 "LuckyTicket$Script" "kinds" "[I") (List.mem_of_getElem? (i := 6) rfl)) (fun _ h9 => h9) rfl hin rfl (by decide +kernel) rfl rfl (Nat.le_of_ble_eq_true rfl) dX4_init_18 (fun H locs hP hD hS => ?_)
  have hP : va_P (dC, dI) vwCl [(h0, .inr (3, [.int 0, .int 0, .int 0, .int 0, .int 0, .ref q_1, .ref q_3, .null, .null])), (q_1, .inl (cA_2, 9, .inl (fun _ => 0))), (q_3, .inl (cA_4, 600, .inl (fun _ => 0)))] H := hP
  have hD : va_D A [(h0, .inr (3, [.int 0, .int 0, .int 0, .int 0, .int 0, .ref q_1, .ref q_3, .null, .null])), (q_1, .inl (cA_2, 9, .inl (fun _ => 0))), (q_3, .inl (cA_4, 600, .inl (fun _ => 0)))] := hD
  refine lv_aload_n hx hb dX4_init_21 rfl (lv_at hl 0 rfl) ?_
  refine lv_sipush (v := 600) hx hb dX4_init_22 (by decide) ?_
  refine va_newa (atype := .long) (ty := .long) (a0 := (600, .inr (.inl (fun _ => 0)))) (N' := 600) hx hb (hts (.arrayClass .long) (List.mem_of_getElem? (i := 7) rfl)) rfl hK hP hD hS hA (fun cA => na_long cA 600) (by decide) (by decide) (by decide) (lel 3 4 rfl) (lel 1209 1809 rfl) dX4_init_25 (fun q_5 cA_6 H hK hP hD hS => ?_)
  have hP : va_P (dC, dI) vwCl [(h0, .inr (3, [.int 0, .int 0, .int 0, .int 0, .int 0, .ref q_1, .ref q_3, .null, .null])), (q_1, .inl (cA_2, 9, .inl (fun _ => 0))), (q_3, .inl (cA_4, 600, .inl (fun _ => 0))), (q_5, .inl (cA_6, 600, .inr (.inl (fun _ => 0))))] H := hP
  have hD : va_D A [(h0, .inr (3, [.int 0, .int 0, .int 0, .int 0, .int 0, .ref q_1, .ref q_3, .null, .null])), (q_1, .inl (cA_2, 9, .inl (fun _ => 0))), (q_3, .inl (cA_4, 600, .inl (fun _ => 0))), (q_5, .inl (cA_6, 600, .inr (.inl (fun _ => 0))))] := hD
  have hK : va_K (dC, dI) vwCl [(cA_2, .int), (cA_4, .int), (cA_6, .long)] s := hK
  refine W.widen (k := 3) (n := 1209) (lel _ _ rfl) (lel _ _ rfl) ?_
  refine va_putF (D := (dC, dI)) (ci := 3) (v := .ref q_5) (ty := .array .long) (C := RX4) (T := TX4) (N := 9) hx hb hts iX4_init_X4 tyX4 tyX4_ok nmX4 hown hK hP hD hS 0 rfl rfl 7 (by decide) (hts (.fieldLink RX4 20 "LuckyTicket$Script" "ones" "[J") (List.mem_of_getElem? (i := 8) rfl)) (fun _ h9 => h9) rfl hin rfl (by decide +kernel) rfl rfl (Nat.le_of_ble_eq_true rfl) dX4_init_27 (fun H locs hP hD hS => ?_)
  have hP : va_P (dC, dI) vwCl [(h0, .inr (3, [.int 0, .int 0, .int 0, .int 0, .int 0, .ref q_1, .ref q_3, .ref q_5, .null])), (q_1, .inl (cA_2, 9, .inl (fun _ => 0))), (q_3, .inl (cA_4, 600, .inl (fun _ => 0))), (q_5, .inl (cA_6, 600, .inr (.inl (fun _ => 0))))] H := hP
  have hD : va_D A [(h0, .inr (3, [.int 0, .int 0, .int 0, .int 0, .int 0, .ref q_1, .ref q_3, .ref q_5, .null])), (q_1, .inl (cA_2, 9, .inl (fun _ => 0))), (q_3, .inl (cA_4, 600, .inl (fun _ => 0))), (q_5, .inl (cA_6, 600, .inr (.inl (fun _ => 0))))] := hD
  refine lv_aload_n hx hb dX4_init_30 rfl (lv_at hl 0 rfl) ?_
  refine lv_sipush (v := 600) hx hb dX4_init_31 (by decide) ?_
  refine va_newa (atype := .long) (ty := .long) (a0 := (600, .inr (.inl (fun _ => 0)))) (N' := 600) hx hb (hts (.arrayClass .long) (List.mem_of_getElem? (i := 7) rfl)) rfl hK hP hD hS hA (fun cA => na_long cA 600) (by decide) (by decide) (by decide) (lel 4 4 rfl) (lel 1809 1809 rfl) dX4_init_34 (fun q_7 cA_8 H hK hP hD hS => ?_)
  have hP : va_P (dC, dI) vwCl [(h0, .inr (3, [.int 0, .int 0, .int 0, .int 0, .int 0, .ref q_1, .ref q_3, .ref q_5, .null])), (q_1, .inl (cA_2, 9, .inl (fun _ => 0))), (q_3, .inl (cA_4, 600, .inl (fun _ => 0))), (q_5, .inl (cA_6, 600, .inr (.inl (fun _ => 0)))), (q_7, .inl (cA_8, 600, .inr (.inl (fun _ => 0))))] H := hP
  have hD : va_D A [(h0, .inr (3, [.int 0, .int 0, .int 0, .int 0, .int 0, .ref q_1, .ref q_3, .ref q_5, .null])), (q_1, .inl (cA_2, 9, .inl (fun _ => 0))), (q_3, .inl (cA_4, 600, .inl (fun _ => 0))), (q_5, .inl (cA_6, 600, .inr (.inl (fun _ => 0)))), (q_7, .inl (cA_8, 600, .inr (.inl (fun _ => 0))))] := hD
  have hK : va_K (dC, dI) vwCl [(cA_2, .int), (cA_4, .int), (cA_6, .long), (cA_8, .long)] s := hK
  refine W.widen (k := 4) (n := 1809) (lel _ _ rfl) (lel _ _ rfl) ?_
  refine va_putF (D := (dC, dI)) (ci := 3) (v := .ref q_7) (ty := .array .long) (C := RX4) (T := TX4) (N := 9) hx hb hts iX4_init_X4 tyX4 tyX4_ok nmX4 hown hK hP hD hS 0 rfl rfl 8 (by decide) (hts (.fieldLink RX4 24 "LuckyTicket$Script" "others" "[J") (List.mem_of_getElem? (i := 9) rfl)) (fun _ h9 => h9) rfl hin rfl (by decide +kernel) rfl rfl (Nat.le_of_ble_eq_true rfl) dX4_init_36 (fun H locs hP hD hS => ?_)
  have hP : va_P (dC, dI) vwCl [(h0, .inr (3, [.int 0, .int 0, .int 0, .int 0, .int 0, .ref q_1, .ref q_3, .ref q_5, .ref q_7])), (q_1, .inl (cA_2, 9, .inl (fun _ => 0))), (q_3, .inl (cA_4, 600, .inl (fun _ => 0))), (q_5, .inl (cA_6, 600, .inr (.inl (fun _ => 0)))), (q_7, .inl (cA_8, 600, .inr (.inl (fun _ => 0))))] H := hP
  have hD : va_D A [(h0, .inr (3, [.int 0, .int 0, .int 0, .int 0, .int 0, .ref q_1, .ref q_3, .ref q_5, .ref q_7])), (q_1, .inl (cA_2, 9, .inl (fun _ => 0))), (q_3, .inl (cA_4, 600, .inl (fun _ => 0))), (q_5, .inl (cA_6, 600, .inr (.inl (fun _ => 0)))), (q_7, .inl (cA_8, 600, .inr (.inl (fun _ => 0))))] := hD
  have hP9 := hP.sub (ws' := [(h0, .inr (3, [.int 0, .int 0, .int 0, .int 0, .int 0, .ref q_1, .ref q_3, .ref q_5, .ref q_7])), (q_1, .inl (cA_2, 9, .inl (fun _ => 0))), (q_3, .inl (cA_4, 600, .inl (fun _ => 0))), (q_5, .inl (cA_6, 600, .inr (.inl (fun _ => 0)))), (q_7, .inl (cA_8, 600, .inr (.inl (fun _ => 0))))]) [0, 1, 2, 3, 4] rfl
  have hD9 := hD.sub (ws' := [(h0, .inr (3, [.int 0, .int 0, .int 0, .int 0, .int 0, .ref q_1, .ref q_3, .ref q_5, .ref q_7])), (q_1, .inl (cA_2, 9, .inl (fun _ => 0))), (q_3, .inl (cA_4, 600, .inl (fun _ => 0))), (q_5, .inl (cA_6, 600, .inr (.inl (fun _ => 0)))), (q_7, .inl (cA_8, 600, .inr (.inl (fun _ => 0))))]) [0, 1, 2, 3, 4] (by decide) rfl
  have hK9 := hK.sub (tys' := [(cA_2, .int), (cA_4, .int), (cA_6, .long), (cA_8, .long)]) [0, 1, 2, 3] rfl
  exact W.vret hx hb hr (fun t ht hW => ⟨⟨(), rfl, trivial, q_1, q_3, q_5, q_7, cA_2, cA_4, cA_6, cA_8, by rw [ht]; exact hP9, va_K.moved hW.alike hK9, hD9⟩, hS.F ht⟩) hS.2.2 dX4_init_39
theorem dX2_init_0 : decode cX2_init 0 = .ok (.aload_n 0, 1) := by decide +kernel
theorem dX2_init_1 : decode cX2_init 1 = .ok (.invokespecial 3, 3) := by decide +kernel
theorem dX2_init_4 : decode cX2_init 4 = .ok (.aload_n 0, 1) := by decide +kernel
theorem dX2_init_5 : decode cX2_init 5 = .ok (.iconst 0, 1) := by decide +kernel
theorem dX2_init_6 : decode cX2_init 6 = .ok (.newarray .long, 2) := by decide +kernel
theorem dX2_init_8 : decode cX2_init 8 = .ok (.putfield 9, 3) := by decide +kernel
theorem dX2_init_11 : decode cX2_init 11 = .ok (.aload_n 0, 1) := by decide +kernel
theorem dX2_init_12 : decode cX2_init 12 = .ok (.iconst 0, 1) := by decide +kernel
theorem dX2_init_13 : decode cX2_init 13 = .ok (.newarray .int, 2) := by decide +kernel
theorem dX2_init_15 : decode cX2_init 15 = .ok (.putfield 15, 3) := by decide +kernel
theorem dX2_init_18 : decode cX2_init 18 = .ok (.return_, 1) := by decide +kernel
def uX2_init : List Cond := .code yX2_init cX2_init 1 none :: ([.methodLink RX2 3 objectInit, .instanceMethod objectInit, .code objectInit ⟨#[0xb1]⟩ 1 none, .arrayClass .long, .fieldLink RX2 9 "LuckyTicket$Roll" "faces" "[J", .arrayClass .int, .fieldLink RX2 15 "LuckyTicket$Roll" "luck" "[I"] ++ wsX20)
theorem iX2_init_X2 : ∀ w ∈ wsX20, w ∈ uX2_init := fun _ h => List.mem_cons_of_mem _ (List.mem_append_right _ h)
set_option maxHeartbeats 4000000 in
set_option maxRecDepth 100000 in
theorem kX2_init (l : Launch) (dC : Nat → ClassId) (dI : Nat → Nat → Nat) (h0 : Nat) (sz : Nat) : Met l yX2_init uX2_init ({ frames := 1, cells := 2, slots := 0, locals := 12 }) (va_Pc [.ref h0] (hw (dC, dI) vwCl [(h0, .inr (1, [.int 0, .int 0, .int 0, .int 0, .int 0, .null, .null]))] [] sz)) (va_Qv (fun (_ : Unit) => True) (fun (_ : Unit) t => ∃ (q_1 : Nat) (q_3 : Nat) (cA_2 : ClassId) (cA_4 : ClassId), va_P (dC, dI) vwCl [(h0, .inr (1, [.int 0, .int 0, .int 0, .int 0, .int 0, .ref q_1, .ref q_3])), (q_1, .inl (cA_2, 0, .inr (.inl (fun _ => 0)))), (q_3, .inl (cA_4, 0, .inl (fun _ => 0)))] t.heap ∧ va_K (dC, dI) vwCl [(cA_2, .long), (cA_4, .int)] t ∧ va_D (va_A [(h0, .inr (1, [.int 0, .int 0, .int 0, .int 0, .int 0, .null, .null]))] sz) [(h0, .inr (1, [.int 0, .int 0, .int 0, .int 0, .int 0, .ref q_1, .ref q_3])), (q_1, .inl (cA_2, 0, .inr (.inl (fun _ => 0)))), (q_3, .inl (cA_4, 0, .inl (fun _ => 0)))]) (va_A [(h0, .inr (1, [.int 0, .int 0, .int 0, .int 0, .int 0, .null, .null]))] sz)) 2 0 (va_A [(h0, .inr (1, [.int 0, .int 0, .int 0, .int 0, .int 0, .null, .null]))] sz) := by
  refine Met.ofW (cc := cX2_init) (maxL := 1) (ret := none) (by decide) rfl ?_
  intro p e s m args below meth c s₁ B hml hv
  obtain ⟨rfl, hsz, hP, hK, hD0, hN⟩ := hv
  have hx := B.exec
  have hb := B.bytes
  have hr := B.returns
  have hts := atoms_spec (ws := uX2_init) B.pre
  have hown : s.vm.findClass RX2 = some m.cls := findClass_of_methodNamed B.named
  have hlocks := B.notSynchronized
  have hin : meth.name = "<init>" := (name_of_methodNamed B.named B.method).1
  subst hsz
  have hD := hD0.self (sz := s.heap.size)
  generalize hAe : va_A [(h0, .inr (1, [.int 0, .int 0, .int 0, .int 0, .int 0, .null, .null]))] s.heap.size = A at hD ⊢
  have hA : ∀ q : Nat, s.heap.size ≤ q → A q := fun q h => by rw [← hAe]; exact Or.inr h
  have hS : va_S A s.heap s.heap [] := va_S.rf
  have hP : va_P (dC, dI) vwCl [(h0, .inr (1, [.int 0, .int 0, .int 0, .int 0, .int 0, .null, .null]))] s.heap := hP
  have hl := lv_entry ([.ref h0]) (n := 1) (Nat.le_of_ble_eq_true rfl)
  rw [lg_entry_eq]
  generalize (lg_sl ([.ref h0]) ++ List.replicate (1 - (lg_sl ([.ref h0])).length) Slot.unset).toArray = ls at hl ⊢
  have hl : lv_has ls 1 [(0, .ref h0)] := hl
  refine lv_aload_n hx hb dX2_init_0 rfl (lv_at hl 0 rfl) ?_
  refine W.objInit hx hb hown (hts (.methodLink RX2 3 objectInit) (List.mem_of_getElem? (i := 1) rfl)) (hts (.instanceMethod objectInit) (List.mem_of_getElem? (i := 2) rfl)) (hts (.code objectInit ⟨#[0xb1]⟩ 1 none) (List.mem_of_getElem? (i := 3) rfl)) rfl (by rw [hml]; exact hl.1) rfl dX2_init_1 (Nat.le_of_ble_eq_true rfl) (Nat.le_of_ble_eq_true rfl) ?_
  refine W.eq (g2 := F0 m 4 ls []) rfl ?_
  refine lv_aload_n hx hb dX2_init_4 rfl (lv_at hl 0 rfl) ?_
  refine lv_iconst (v := 0) hx hb dX2_init_5 (by decide) ?_
  refine va_newa (atype := .long) (ty := .long) (a0 := (0, .inr (.inl (fun _ => 0)))) (N' := 0) hx hb (hts (.arrayClass .long) (List.mem_of_getElem? (i := 4) rfl)) rfl hK hP hD hS hA (fun cA => na_long cA 0) (by decide) (by decide) (by decide) (lel 1 2 rfl) (lel 0 0 rfl) dX2_init_6 (fun q_1 cA_2 H hK hP hD hS => ?_)
  have hP : va_P (dC, dI) vwCl [(h0, .inr (1, [.int 0, .int 0, .int 0, .int 0, .int 0, .null, .null])), (q_1, .inl (cA_2, 0, .inr (.inl (fun _ => 0))))] H := hP
  have hD : va_D A [(h0, .inr (1, [.int 0, .int 0, .int 0, .int 0, .int 0, .null, .null])), (q_1, .inl (cA_2, 0, .inr (.inl (fun _ => 0))))] := hD
  have hK : va_K (dC, dI) vwCl [(cA_2, .long)] s := hK
  refine W.widen (k := 1) (n := 0) (lel _ _ rfl) (lel _ _ rfl) ?_
  refine va_put (D := (dC, dI)) (ci := 1) (v := .ref q_1) (ty := .array .long) (C := RX2) (T := TX2) (N := 7) hx hb hts iX2_init_X2 tyX2 tyX2_ok nmX2 hown hK hP hD hS 0 rfl rfl 5 (by decide) (hts (.fieldLink RX2 9 "LuckyTicket$Roll" "faces" "[J") (List.mem_of_getElem? (i := 5) rfl)) (fun _ h9 => h9) rfl (by decide +kernel) rfl rfl (Nat.le_of_ble_eq_true rfl) dX2_init_8 (fun H locs hP hD hS => ?_)
  have hP : va_P (dC, dI) vwCl [(h0, .inr (1, [.int 0, .int 0, .int 0, .int 0, .int 0, .ref q_1, .null])), (q_1, .inl (cA_2, 0, .inr (.inl (fun _ => 0))))] H := hP
  have hD : va_D A [(h0, .inr (1, [.int 0, .int 0, .int 0, .int 0, .int 0, .ref q_1, .null])), (q_1, .inl (cA_2, 0, .inr (.inl (fun _ => 0))))] := hD
  refine lv_aload_n hx hb dX2_init_11 rfl (lv_at hl 0 rfl) ?_
  refine lv_iconst (v := 0) hx hb dX2_init_12 (by decide) ?_
  refine va_newa (atype := .int) (ty := .int) (a0 := (0, .inl (fun _ => 0))) (N' := 0) hx hb (hts (.arrayClass .int) (List.mem_of_getElem? (i := 6) rfl)) rfl hK hP hD hS hA (fun cA => na_int cA 0) (by decide) (by decide) (by decide) (lel 2 2 rfl) (lel 0 0 rfl) dX2_init_13 (fun q_3 cA_4 H hK hP hD hS => ?_)
  have hP : va_P (dC, dI) vwCl [(h0, .inr (1, [.int 0, .int 0, .int 0, .int 0, .int 0, .ref q_1, .null])), (q_1, .inl (cA_2, 0, .inr (.inl (fun _ => 0)))), (q_3, .inl (cA_4, 0, .inl (fun _ => 0)))] H := hP
  have hD : va_D A [(h0, .inr (1, [.int 0, .int 0, .int 0, .int 0, .int 0, .ref q_1, .null])), (q_1, .inl (cA_2, 0, .inr (.inl (fun _ => 0)))), (q_3, .inl (cA_4, 0, .inl (fun _ => 0)))] := hD
  have hK : va_K (dC, dI) vwCl [(cA_2, .long), (cA_4, .int)] s := hK
  refine W.widen (k := 2) (n := 0) (lel _ _ rfl) (lel _ _ rfl) ?_
  refine va_put (D := (dC, dI)) (ci := 1) (v := .ref q_3) (ty := .array .int) (C := RX2) (T := TX2) (N := 7) hx hb hts iX2_init_X2 tyX2 tyX2_ok nmX2 hown hK hP hD hS 0 rfl rfl 6 (by decide) (hts (.fieldLink RX2 15 "LuckyTicket$Roll" "luck" "[I") (List.mem_of_getElem? (i := 7) rfl)) (fun _ h9 => h9) rfl (by decide +kernel) rfl rfl (Nat.le_of_ble_eq_true rfl) dX2_init_15 (fun H locs hP hD hS => ?_)
  have hP : va_P (dC, dI) vwCl [(h0, .inr (1, [.int 0, .int 0, .int 0, .int 0, .int 0, .ref q_1, .ref q_3])), (q_1, .inl (cA_2, 0, .inr (.inl (fun _ => 0)))), (q_3, .inl (cA_4, 0, .inl (fun _ => 0)))] H := hP
  have hD : va_D A [(h0, .inr (1, [.int 0, .int 0, .int 0, .int 0, .int 0, .ref q_1, .ref q_3])), (q_1, .inl (cA_2, 0, .inr (.inl (fun _ => 0)))), (q_3, .inl (cA_4, 0, .inl (fun _ => 0)))] := hD
  have hP9 := hP.sub (ws' := [(h0, .inr (1, [.int 0, .int 0, .int 0, .int 0, .int 0, .ref q_1, .ref q_3])), (q_1, .inl (cA_2, 0, .inr (.inl (fun _ => 0)))), (q_3, .inl (cA_4, 0, .inl (fun _ => 0)))]) [0, 1, 2] rfl
  have hD9 := hD.sub (ws' := [(h0, .inr (1, [.int 0, .int 0, .int 0, .int 0, .int 0, .ref q_1, .ref q_3])), (q_1, .inl (cA_2, 0, .inr (.inl (fun _ => 0)))), (q_3, .inl (cA_4, 0, .inl (fun _ => 0)))]) [0, 1, 2] (by decide) rfl
  have hK9 := hK.sub (tys' := [(cA_2, .long), (cA_4, .int)]) [0, 1] rfl
  exact W.vret hx hb hr (fun t ht hW => ⟨⟨(), rfl, trivial, q_1, q_3, cA_2, cA_4, by rw [ht]; exact hP9, va_K.moved hW.alike hK9, hD9⟩, hS.F ht⟩) hS.2.2 dX2_init_18
theorem dX3_init_0 : decode cX3_init 0 = .ok (.aload_n 0, 1) := by decide +kernel
theorem dX3_init_1 : decode cX3_init 1 = .ok (.invokespecial 3, 3) := by decide +kernel
theorem dX3_init_4 : decode cX3_init 4 = .ok (.aload_n 0, 1) := by decide +kernel
theorem dX3_init_5 : decode cX3_init 5 = .ok (.iconst (-1), 1) := by decide +kernel
theorem dX3_init_6 : decode cX3_init 6 = .ok (.putfield 9, 3) := by decide +kernel
theorem dX3_init_9 : decode cX3_init 9 = .ok (.aload_n 0, 1) := by decide +kernel
theorem dX3_init_10 : decode cX3_init 10 = .ok (.bipush 60, 2) := by decide +kernel
theorem dX3_init_12 : decode cX3_init 12 = .ok (.newarray .long, 2) := by decide +kernel
theorem dX3_init_14 : decode cX3_init 14 = .ok (.putfield 15, 3) := by decide +kernel
theorem dX3_init_17 : decode cX3_init 17 = .ok (.return_, 1) := by decide +kernel
def uX3_init : List Cond := .code yX3_init cX3_init 1 none :: ([.methodLink RX3 3 objectInit, .instanceMethod objectInit, .code objectInit ⟨#[0xb1]⟩ 1 none, .fieldLink RX3 9 "LuckyTicket$Row" "width" "I", .arrayClass .long, .fieldLink RX3 15 "LuckyTicket$Row" "numbers" "[J"] ++ wsX30)
theorem iX3_init_X3 : ∀ w ∈ wsX30, w ∈ uX3_init := fun _ h => List.mem_cons_of_mem _ (List.mem_append_right _ h)
set_option maxHeartbeats 4000000 in
set_option maxRecDepth 100000 in
theorem kX3_init (l : Launch) (dC : Nat → ClassId) (dI : Nat → Nat → Nat) (h0 : Nat) (sz : Nat) : Met l yX3_init uX3_init ({ frames := 1, cells := 1, slots := 60, locals := 12 }) (va_Pc [.ref h0] (hw (dC, dI) vwCl [(h0, .inr (2, [.int 0, .int 0, .null]))] [] sz)) (va_Qv (fun (_ : Unit) => True) (fun (_ : Unit) t => ∃ (q_1 : Nat) (cA_2 : ClassId), va_P (dC, dI) vwCl [(h0, .inr (2, [.int (-1), .int 0, .ref q_1])), (q_1, .inl (cA_2, 60, .inr (.inl (fun _ => 0))))] t.heap ∧ va_K (dC, dI) vwCl [(cA_2, .long)] t ∧ va_D (va_A [(h0, .inr (2, [.int 0, .int 0, .null]))] sz) [(h0, .inr (2, [.int (-1), .int 0, .ref q_1])), (q_1, .inl (cA_2, 60, .inr (.inl (fun _ => 0))))]) (va_A [(h0, .inr (2, [.int 0, .int 0, .null]))] sz)) 1 60 (va_A [(h0, .inr (2, [.int 0, .int 0, .null]))] sz) := by
  refine Met.ofW (cc := cX3_init) (maxL := 1) (ret := none) (by decide) rfl ?_
  intro p e s m args below meth c s₁ B hml hv
  obtain ⟨rfl, hsz, hP, hK, hD0, hN⟩ := hv
  have hx := B.exec
  have hb := B.bytes
  have hr := B.returns
  have hts := atoms_spec (ws := uX3_init) B.pre
  have hown : s.vm.findClass RX3 = some m.cls := findClass_of_methodNamed B.named
  have hlocks := B.notSynchronized
  have hin : meth.name = "<init>" := (name_of_methodNamed B.named B.method).1
  subst hsz
  have hD := hD0.self (sz := s.heap.size)
  generalize hAe : va_A [(h0, .inr (2, [.int 0, .int 0, .null]))] s.heap.size = A at hD ⊢
  have hA : ∀ q : Nat, s.heap.size ≤ q → A q := fun q h => by rw [← hAe]; exact Or.inr h
  have hS : va_S A s.heap s.heap [] := va_S.rf
  have hP : va_P (dC, dI) vwCl [(h0, .inr (2, [.int 0, .int 0, .null]))] s.heap := hP
  have hl := lv_entry ([.ref h0]) (n := 1) (Nat.le_of_ble_eq_true rfl)
  rw [lg_entry_eq]
  generalize (lg_sl ([.ref h0]) ++ List.replicate (1 - (lg_sl ([.ref h0])).length) Slot.unset).toArray = ls at hl ⊢
  have hl : lv_has ls 1 [(0, .ref h0)] := hl
  refine lv_aload_n hx hb dX3_init_0 rfl (lv_at hl 0 rfl) ?_
  refine W.objInit hx hb hown (hts (.methodLink RX3 3 objectInit) (List.mem_of_getElem? (i := 1) rfl)) (hts (.instanceMethod objectInit) (List.mem_of_getElem? (i := 2) rfl)) (hts (.code objectInit ⟨#[0xb1]⟩ 1 none) (List.mem_of_getElem? (i := 3) rfl)) rfl (by rw [hml]; exact hl.1) rfl dX3_init_1 (Nat.le_of_ble_eq_true rfl) (Nat.le_of_ble_eq_true rfl) ?_
  refine W.eq (g2 := F0 m 4 ls []) rfl ?_
  refine lv_aload_n hx hb dX3_init_4 rfl (lv_at hl 0 rfl) ?_
  refine lv_iconst (v := (-1)) hx hb dX3_init_5 (by decide) ?_
  refine va_put (D := (dC, dI)) (ci := 2) (v := .int (-1)) (ty := .int) (C := RX3) (T := TX3) (N := 3) hx hb hts iX3_init_X3 tyX3 tyX3_ok nmX3 hown hK hP hD hS 0 rfl rfl 0 (by decide) (hts (.fieldLink RX3 9 "LuckyTicket$Row" "width" "I") (List.mem_of_getElem? (i := 4) rfl)) (fun _ h9 => h9) rfl (by decide +kernel) rfl rfl (Nat.le_of_ble_eq_true rfl) dX3_init_6 (fun H locs hP hD hS => ?_)
  have hP : va_P (dC, dI) vwCl [(h0, .inr (2, [.int (-1), .int 0, .null]))] H := hP
  have hD : va_D A [(h0, .inr (2, [.int (-1), .int 0, .null]))] := hD
  refine lv_aload_n hx hb dX3_init_9 rfl (lv_at hl 0 rfl) ?_
  refine lv_bipush (v := 60) hx hb dX3_init_10 (by decide) ?_
  refine va_newa (atype := .long) (ty := .long) (a0 := (60, .inr (.inl (fun _ => 0)))) (N' := 60) hx hb (hts (.arrayClass .long) (List.mem_of_getElem? (i := 5) rfl)) rfl hK hP hD hS hA (fun cA => na_long cA 60) (by decide) (by decide) (by decide) (lel 1 1 rfl) (lel 60 60 rfl) dX3_init_12 (fun q_1 cA_2 H hK hP hD hS => ?_)
  have hP : va_P (dC, dI) vwCl [(h0, .inr (2, [.int (-1), .int 0, .null])), (q_1, .inl (cA_2, 60, .inr (.inl (fun _ => 0))))] H := hP
  have hD : va_D A [(h0, .inr (2, [.int (-1), .int 0, .null])), (q_1, .inl (cA_2, 60, .inr (.inl (fun _ => 0))))] := hD
  have hK : va_K (dC, dI) vwCl [(cA_2, .long)] s := hK
  refine W.widen (k := 1) (n := 60) (lel _ _ rfl) (lel _ _ rfl) ?_
  refine va_putF (D := (dC, dI)) (ci := 2) (v := .ref q_1) (ty := .array .long) (C := RX3) (T := TX3) (N := 3) hx hb hts iX3_init_X3 tyX3 tyX3_ok nmX3 hown hK hP hD hS 0 rfl rfl 2 (by decide) (hts (.fieldLink RX3 15 "LuckyTicket$Row" "numbers" "[J") (List.mem_of_getElem? (i := 6) rfl)) (fun _ h9 => h9) rfl hin rfl (by decide +kernel) rfl rfl (Nat.le_of_ble_eq_true rfl) dX3_init_14 (fun H locs hP hD hS => ?_)
  have hP : va_P (dC, dI) vwCl [(h0, .inr (2, [.int (-1), .int 0, .ref q_1])), (q_1, .inl (cA_2, 60, .inr (.inl (fun _ => 0))))] H := hP
  have hD : va_D A [(h0, .inr (2, [.int (-1), .int 0, .ref q_1])), (q_1, .inl (cA_2, 60, .inr (.inl (fun _ => 0))))] := hD
  have hP9 := hP.sub (ws' := [(h0, .inr (2, [.int (-1), .int 0, .ref q_1])), (q_1, .inl (cA_2, 60, .inr (.inl (fun _ => 0))))]) [0, 1] rfl
  have hD9 := hD.sub (ws' := [(h0, .inr (2, [.int (-1), .int 0, .ref q_1])), (q_1, .inl (cA_2, 60, .inr (.inl (fun _ => 0))))]) [0, 1] (by decide) rfl
  have hK9 := hK.sub (tys' := [(cA_2, .long)]) [0] rfl
  exact W.vret hx hb hr (fun t ht hW => ⟨⟨(), rfl, trivial, q_1, cA_2, by rw [ht]; exact hP9, va_K.moved hW.alike hK9, hD9⟩, hS.F ht⟩) hS.2.2 dX3_init_17
theorem dX5_init_0 : decode cX5_init 0 = .ok (.aload_n 0, 1) := by decide +kernel
theorem dX5_init_1 : decode cX5_init 1 = .ok (.invokespecial 3, 3) := by decide +kernel
theorem dX5_init_4 : decode cX5_init 4 = .ok (.aload_n 0, 1) := by decide +kernel
theorem dX5_init_5 : decode cX5_init 5 = .ok (.iconst 0, 1) := by decide +kernel
theorem dX5_init_6 : decode cX5_init 6 = .ok (.newarray .int, 2) := by decide +kernel
theorem dX5_init_8 : decode cX5_init 8 = .ok (.putfield 9, 3) := by decide +kernel
theorem dX5_init_11 : decode cX5_init 11 = .ok (.aload_n 0, 1) := by decide +kernel
theorem dX5_init_12 : decode cX5_init 12 = .ok (.iconst 0, 1) := by decide +kernel
theorem dX5_init_13 : decode cX5_init 13 = .ok (.newarray .int, 2) := by decide +kernel
theorem dX5_init_15 : decode cX5_init 15 = .ok (.putfield 15, 3) := by decide +kernel
theorem dX5_init_18 : decode cX5_init 18 = .ok (.aload_n 0, 1) := by decide +kernel
theorem dX5_init_19 : decode cX5_init 19 = .ok (.iconst 0, 1) := by decide +kernel
theorem dX5_init_20 : decode cX5_init 20 = .ok (.newarray .byte, 2) := by decide +kernel
theorem dX5_init_22 : decode cX5_init 22 = .ok (.putfield 18, 3) := by decide +kernel
theorem dX5_init_25 : decode cX5_init 25 = .ok (.return_, 1) := by decide +kernel
def uX5_init : List Cond := .code yX5_init cX5_init 1 none :: ([.methodLink RX5 3 objectInit, .instanceMethod objectInit, .code objectInit ⟨#[0xb1]⟩ 1 none, .arrayClass .int, .fieldLink RX5 9 "LuckyTicket$Search" "queue" "[I", .fieldLink RX5 15 "LuckyTicket$Search" "far" "[I", .arrayClass .byte, .fieldLink RX5 18 "LuckyTicket$Search" "gone" "[B"] ++ wsX50)
theorem iX5_init_X5 : ∀ w ∈ wsX50, w ∈ uX5_init := fun _ h => List.mem_cons_of_mem _ (List.mem_append_right _ h)
set_option maxHeartbeats 4000000 in
set_option maxRecDepth 100000 in
theorem kX5_init (l : Launch) (dC : Nat → ClassId) (dI : Nat → Nat → Nat) (h0 : Nat) (sz : Nat) : Met l yX5_init uX5_init ({ frames := 1, cells := 3, slots := 0, locals := 12 }) (va_Pc [.ref h0] (hw (dC, dI) vwCl [(h0, .inr (4, [.null, .null, .null]))] [] sz)) (va_Qv (fun (_ : Unit) => True) (fun (_ : Unit) t => ∃ (q_1 : Nat) (q_3 : Nat) (q_5 : Nat) (cA_2 : ClassId) (cA_4 : ClassId) (cA_6 : ClassId), va_P (dC, dI) vwCl [(h0, .inr (4, [.ref q_1, .ref q_3, .ref q_5])), (q_1, .inl (cA_2, 0, .inl (fun _ => 0))), (q_3, .inl (cA_4, 0, .inl (fun _ => 0))), (q_5, .inl (cA_6, 0, .inl (fun _ => 0)))] t.heap ∧ va_K (dC, dI) vwCl [(cA_2, .int), (cA_4, .int), (cA_6, .byte)] t ∧ va_D (va_A [(h0, .inr (4, [.null, .null, .null]))] sz) [(h0, .inr (4, [.ref q_1, .ref q_3, .ref q_5])), (q_1, .inl (cA_2, 0, .inl (fun _ => 0))), (q_3, .inl (cA_4, 0, .inl (fun _ => 0))), (q_5, .inl (cA_6, 0, .inl (fun _ => 0)))]) (va_A [(h0, .inr (4, [.null, .null, .null]))] sz)) 3 0 (va_A [(h0, .inr (4, [.null, .null, .null]))] sz) := by
  refine Met.ofW (cc := cX5_init) (maxL := 1) (ret := none) (by decide) rfl ?_
  intro p e s m args below meth c s₁ B hml hv
  obtain ⟨rfl, hsz, hP, hK, hD0, hN⟩ := hv
  have hx := B.exec
  have hb := B.bytes
  have hr := B.returns
  have hts := atoms_spec (ws := uX5_init) B.pre
  have hown : s.vm.findClass RX5 = some m.cls := findClass_of_methodNamed B.named
  have hlocks := B.notSynchronized
  have hin : meth.name = "<init>" := (name_of_methodNamed B.named B.method).1
  subst hsz
  have hD := hD0.self (sz := s.heap.size)
  generalize hAe : va_A [(h0, .inr (4, [.null, .null, .null]))] s.heap.size = A at hD ⊢
  have hA : ∀ q : Nat, s.heap.size ≤ q → A q := fun q h => by rw [← hAe]; exact Or.inr h
  have hS : va_S A s.heap s.heap [] := va_S.rf
  have hP : va_P (dC, dI) vwCl [(h0, .inr (4, [.null, .null, .null]))] s.heap := hP
  have hl := lv_entry ([.ref h0]) (n := 1) (Nat.le_of_ble_eq_true rfl)
  rw [lg_entry_eq]
  generalize (lg_sl ([.ref h0]) ++ List.replicate (1 - (lg_sl ([.ref h0])).length) Slot.unset).toArray = ls at hl ⊢
  have hl : lv_has ls 1 [(0, .ref h0)] := hl
  refine lv_aload_n hx hb dX5_init_0 rfl (lv_at hl 0 rfl) ?_
  refine W.objInit hx hb hown (hts (.methodLink RX5 3 objectInit) (List.mem_of_getElem? (i := 1) rfl)) (hts (.instanceMethod objectInit) (List.mem_of_getElem? (i := 2) rfl)) (hts (.code objectInit ⟨#[0xb1]⟩ 1 none) (List.mem_of_getElem? (i := 3) rfl)) rfl (by rw [hml]; exact hl.1) rfl dX5_init_1 (Nat.le_of_ble_eq_true rfl) (Nat.le_of_ble_eq_true rfl) ?_
  refine W.eq (g2 := F0 m 4 ls []) rfl ?_
  refine lv_aload_n hx hb dX5_init_4 rfl (lv_at hl 0 rfl) ?_
  refine lv_iconst (v := 0) hx hb dX5_init_5 (by decide) ?_
  refine va_newa (atype := .int) (ty := .int) (a0 := (0, .inl (fun _ => 0))) (N' := 0) hx hb (hts (.arrayClass .int) (List.mem_of_getElem? (i := 4) rfl)) rfl hK hP hD hS hA (fun cA => na_int cA 0) (by decide) (by decide) (by decide) (lel 1 3 rfl) (lel 0 0 rfl) dX5_init_6 (fun q_1 cA_2 H hK hP hD hS => ?_)
  have hP : va_P (dC, dI) vwCl [(h0, .inr (4, [.null, .null, .null])), (q_1, .inl (cA_2, 0, .inl (fun _ => 0)))] H := hP
  have hD : va_D A [(h0, .inr (4, [.null, .null, .null])), (q_1, .inl (cA_2, 0, .inl (fun _ => 0)))] := hD
  have hK : va_K (dC, dI) vwCl [(cA_2, .int)] s := hK
  refine W.widen (k := 1) (n := 0) (lel _ _ rfl) (lel _ _ rfl) ?_
  refine va_put (D := (dC, dI)) (ci := 4) (v := .ref q_1) (ty := .array .int) (C := RX5) (T := TX5) (N := 3) hx hb hts iX5_init_X5 tyX5 tyX5_ok nmX5 hown hK hP hD hS 0 rfl rfl 0 (by decide) (hts (.fieldLink RX5 9 "LuckyTicket$Search" "queue" "[I") (List.mem_of_getElem? (i := 5) rfl)) (fun _ h9 => h9) rfl (by decide +kernel) rfl rfl (Nat.le_of_ble_eq_true rfl) dX5_init_8 (fun H locs hP hD hS => ?_)
  have hP : va_P (dC, dI) vwCl [(h0, .inr (4, [.ref q_1, .null, .null])), (q_1, .inl (cA_2, 0, .inl (fun _ => 0)))] H := hP
  have hD : va_D A [(h0, .inr (4, [.ref q_1, .null, .null])), (q_1, .inl (cA_2, 0, .inl (fun _ => 0)))] := hD
  refine lv_aload_n hx hb dX5_init_11 rfl (lv_at hl 0 rfl) ?_
  refine lv_iconst (v := 0) hx hb dX5_init_12 (by decide) ?_
  refine va_newa (atype := .int) (ty := .int) (a0 := (0, .inl (fun _ => 0))) (N' := 0) hx hb (hts (.arrayClass .int) (List.mem_of_getElem? (i := 4) rfl)) rfl hK hP hD hS hA (fun cA => na_int cA 0) (by decide) (by decide) (by decide) (lel 2 3 rfl) (lel 0 0 rfl) dX5_init_13 (fun q_3 cA_4 H hK hP hD hS => ?_)
  have hP : va_P (dC, dI) vwCl [(h0, .inr (4, [.ref q_1, .null, .null])), (q_1, .inl (cA_2, 0, .inl (fun _ => 0))), (q_3, .inl (cA_4, 0, .inl (fun _ => 0)))] H := hP
  have hD : va_D A [(h0, .inr (4, [.ref q_1, .null, .null])), (q_1, .inl (cA_2, 0, .inl (fun _ => 0))), (q_3, .inl (cA_4, 0, .inl (fun _ => 0)))] := hD
  have hK : va_K (dC, dI) vwCl [(cA_2, .int), (cA_4, .int)] s := hK
  refine W.widen (k := 2) (n := 0) (lel _ _ rfl) (lel _ _ rfl) ?_
  refine va_put (D := (dC, dI)) (ci := 4) (v := .ref q_3) (ty := .array .int) (C := RX5) (T := TX5) (N := 3) hx hb hts iX5_init_X5 tyX5 tyX5_ok nmX5 hown hK hP hD hS 0 rfl rfl 1 (by decide) (hts (.fieldLink RX5 15 "LuckyTicket$Search" "far" "[I") (List.mem_of_getElem? (i := 6) rfl)) (fun _ h9 => h9) rfl (by decide +kernel) rfl rfl (Nat.le_of_ble_eq_true rfl) dX5_init_15 (fun H locs hP hD hS => ?_)
  have hP : va_P (dC, dI) vwCl [(h0, .inr (4, [.ref q_1, .ref q_3, .null])), (q_1, .inl (cA_2, 0, .inl (fun _ => 0))), (q_3, .inl (cA_4, 0, .inl (fun _ => 0)))] H := hP
  have hD : va_D A [(h0, .inr (4, [.ref q_1, .ref q_3, .null])), (q_1, .inl (cA_2, 0, .inl (fun _ => 0))), (q_3, .inl (cA_4, 0, .inl (fun _ => 0)))] := hD
  refine lv_aload_n hx hb dX5_init_18 rfl (lv_at hl 0 rfl) ?_
  refine lv_iconst (v := 0) hx hb dX5_init_19 (by decide) ?_
  refine va_newa (atype := .byte) (ty := .byte) (a0 := (0, .inl (fun _ => 0))) (N' := 0) hx hb (hts (.arrayClass .byte) (List.mem_of_getElem? (i := 7) rfl)) rfl hK hP hD hS hA (fun cA => na_byte cA 0) (by decide) (by decide) (by decide) (lel 3 3 rfl) (lel 0 0 rfl) dX5_init_20 (fun q_5 cA_6 H hK hP hD hS => ?_)
  have hP : va_P (dC, dI) vwCl [(h0, .inr (4, [.ref q_1, .ref q_3, .null])), (q_1, .inl (cA_2, 0, .inl (fun _ => 0))), (q_3, .inl (cA_4, 0, .inl (fun _ => 0))), (q_5, .inl (cA_6, 0, .inl (fun _ => 0)))] H := hP
  have hD : va_D A [(h0, .inr (4, [.ref q_1, .ref q_3, .null])), (q_1, .inl (cA_2, 0, .inl (fun _ => 0))), (q_3, .inl (cA_4, 0, .inl (fun _ => 0))), (q_5, .inl (cA_6, 0, .inl (fun _ => 0)))] := hD
  have hK : va_K (dC, dI) vwCl [(cA_2, .int), (cA_4, .int), (cA_6, .byte)] s := hK
  refine W.widen (k := 3) (n := 0) (lel _ _ rfl) (lel _ _ rfl) ?_
  refine va_put (D := (dC, dI)) (ci := 4) (v := .ref q_5) (ty := .array .byte) (C := RX5) (T := TX5) (N := 3) hx hb hts iX5_init_X5 tyX5 tyX5_ok nmX5 hown hK hP hD hS 0 rfl rfl 2 (by decide) (hts (.fieldLink RX5 18 "LuckyTicket$Search" "gone" "[B") (List.mem_of_getElem? (i := 8) rfl)) (fun _ h9 => h9) rfl (by decide +kernel) rfl rfl (Nat.le_of_ble_eq_true rfl) dX5_init_22 (fun H locs hP hD hS => ?_)
  have hP : va_P (dC, dI) vwCl [(h0, .inr (4, [.ref q_1, .ref q_3, .ref q_5])), (q_1, .inl (cA_2, 0, .inl (fun _ => 0))), (q_3, .inl (cA_4, 0, .inl (fun _ => 0))), (q_5, .inl (cA_6, 0, .inl (fun _ => 0)))] H := hP
  have hD : va_D A [(h0, .inr (4, [.ref q_1, .ref q_3, .ref q_5])), (q_1, .inl (cA_2, 0, .inl (fun _ => 0))), (q_3, .inl (cA_4, 0, .inl (fun _ => 0))), (q_5, .inl (cA_6, 0, .inl (fun _ => 0)))] := hD
  have hP9 := hP.sub (ws' := [(h0, .inr (4, [.ref q_1, .ref q_3, .ref q_5])), (q_1, .inl (cA_2, 0, .inl (fun _ => 0))), (q_3, .inl (cA_4, 0, .inl (fun _ => 0))), (q_5, .inl (cA_6, 0, .inl (fun _ => 0)))]) [0, 1, 2, 3] rfl
  have hD9 := hD.sub (ws' := [(h0, .inr (4, [.ref q_1, .ref q_3, .ref q_5])), (q_1, .inl (cA_2, 0, .inl (fun _ => 0))), (q_3, .inl (cA_4, 0, .inl (fun _ => 0))), (q_5, .inl (cA_6, 0, .inl (fun _ => 0)))]) [0, 1, 2, 3] (by decide) rfl
  have hK9 := hK.sub (tys' := [(cA_2, .int), (cA_4, .int), (cA_6, .byte)]) [0, 1, 2] rfl
  exact W.vret hx hb hr (fun t ht hW => ⟨⟨(), rfl, trivial, q_1, q_3, q_5, cA_2, cA_4, cA_6, by rw [ht]; exact hP9, va_K.moved hW.alike hK9, hD9⟩, hS.F ht⟩) hS.2.2 dX5_init_25
theorem dX6_init_0 : decode cX6_init 0 = .ok (.aload_n 0, 1) := by decide +kernel
theorem dX6_init_1 : decode cX6_init 1 = .ok (.invokespecial 1, 3) := by decide +kernel
theorem dX6_init_4 : decode cX6_init 4 = .ok (.aload_n 0, 1) := by decide +kernel
theorem dX6_init_5 : decode cX6_init 5 = .ok (.sipush 181, 3) := by decide +kernel
theorem dX6_init_8 : decode cX6_init 8 = .ok (.newarray .long, 2) := by decide +kernel
theorem dX6_init_10 : decode cX6_init 10 = .ok (.putfield 9, 3) := by decide +kernel
theorem dX6_init_13 : decode cX6_init 13 = .ok (.return_, 1) := by decide +kernel
def uX6_init : List Cond := .code yX6_init cX6_init 1 none :: ([.methodLink RX6 1 objectInit, .instanceMethod objectInit, .code objectInit ⟨#[0xb1]⟩ 1 none, .arrayClass .long, .fieldLink RX6 9 "LuckyTicket$SumTable" "ways" "[J"] ++ wsX60)
theorem iX6_init_X6 : ∀ w ∈ wsX60, w ∈ uX6_init := fun _ h => List.mem_cons_of_mem _ (List.mem_append_right _ h)
set_option maxHeartbeats 4000000 in
set_option maxRecDepth 100000 in
theorem kX6_init (l : Launch) (dC : Nat → ClassId) (dI : Nat → Nat → Nat) (h0 : Nat) (sz : Nat) : Met l yX6_init uX6_init ({ frames := 1, cells := 1, slots := 181, locals := 12 }) (va_Pc [.ref h0] (hw (dC, dI) vwCl [(h0, .inr (5, [.null]))] [] sz)) (va_Qv (fun (_ : Unit) => True) (fun (_ : Unit) t => ∃ (q_1 : Nat) (cA_2 : ClassId), va_P (dC, dI) vwCl [(h0, .inr (5, [.ref q_1])), (q_1, .inl (cA_2, 181, .inr (.inl (fun _ => 0))))] t.heap ∧ va_K (dC, dI) vwCl [(cA_2, .long)] t ∧ va_D (va_A [(h0, .inr (5, [.null]))] sz) [(h0, .inr (5, [.ref q_1])), (q_1, .inl (cA_2, 181, .inr (.inl (fun _ => 0))))]) (va_A [(h0, .inr (5, [.null]))] sz)) 1 181 (va_A [(h0, .inr (5, [.null]))] sz) := by
  refine Met.ofW (cc := cX6_init) (maxL := 1) (ret := none) (by decide) rfl ?_
  intro p e s m args below meth c s₁ B hml hv
  obtain ⟨rfl, hsz, hP, hK, hD0, hN⟩ := hv
  have hx := B.exec
  have hb := B.bytes
  have hr := B.returns
  have hts := atoms_spec (ws := uX6_init) B.pre
  have hown : s.vm.findClass RX6 = some m.cls := findClass_of_methodNamed B.named
  have hlocks := B.notSynchronized
  have hin : meth.name = "<init>" := (name_of_methodNamed B.named B.method).1
  subst hsz
  have hD := hD0.self (sz := s.heap.size)
  generalize hAe : va_A [(h0, .inr (5, [.null]))] s.heap.size = A at hD ⊢
  have hA : ∀ q : Nat, s.heap.size ≤ q → A q := fun q h => by rw [← hAe]; exact Or.inr h
  have hS : va_S A s.heap s.heap [] := va_S.rf
  have hP : va_P (dC, dI) vwCl [(h0, .inr (5, [.null]))] s.heap := hP
  have hl := lv_entry ([.ref h0]) (n := 1) (Nat.le_of_ble_eq_true rfl)
  rw [lg_entry_eq]
  generalize (lg_sl ([.ref h0]) ++ List.replicate (1 - (lg_sl ([.ref h0])).length) Slot.unset).toArray = ls at hl ⊢
  have hl : lv_has ls 1 [(0, .ref h0)] := hl
  refine lv_aload_n hx hb dX6_init_0 rfl (lv_at hl 0 rfl) ?_
  refine W.objInit hx hb hown (hts (.methodLink RX6 1 objectInit) (List.mem_of_getElem? (i := 1) rfl)) (hts (.instanceMethod objectInit) (List.mem_of_getElem? (i := 2) rfl)) (hts (.code objectInit ⟨#[0xb1]⟩ 1 none) (List.mem_of_getElem? (i := 3) rfl)) rfl (by rw [hml]; exact hl.1) rfl dX6_init_1 (Nat.le_of_ble_eq_true rfl) (Nat.le_of_ble_eq_true rfl) ?_
  refine W.eq (g2 := F0 m 4 ls []) rfl ?_
  refine lv_aload_n hx hb dX6_init_4 rfl (lv_at hl 0 rfl) ?_
  refine lv_sipush (v := 181) hx hb dX6_init_5 (by decide) ?_
  refine va_newa (atype := .long) (ty := .long) (a0 := (181, .inr (.inl (fun _ => 0)))) (N' := 181) hx hb (hts (.arrayClass .long) (List.mem_of_getElem? (i := 4) rfl)) rfl hK hP hD hS hA (fun cA => na_long cA 181) (by decide) (by decide) (by decide) (lel 1 1 rfl) (lel 181 181 rfl) dX6_init_8 (fun q_1 cA_2 H hK hP hD hS => ?_)
  have hP : va_P (dC, dI) vwCl [(h0, .inr (5, [.null])), (q_1, .inl (cA_2, 181, .inr (.inl (fun _ => 0))))] H := hP
  have hD : va_D A [(h0, .inr (5, [.null])), (q_1, .inl (cA_2, 181, .inr (.inl (fun _ => 0))))] := hD
  have hK : va_K (dC, dI) vwCl [(cA_2, .long)] s := hK
  refine W.widen (k := 1) (n := 181) (lel _ _ rfl) (lel _ _ rfl) ?_
  refine va_putF (D := (dC, dI)) (ci := 5) (v := .ref q_1) (ty := .array .long) (C := RX6) (T := TX6) (N := 1) hx hb hts iX6_init_X6 tyX6 tyX6_ok nmX6 hown hK hP hD hS 0 rfl rfl 0 (by decide) (hts (.fieldLink RX6 9 "LuckyTicket$SumTable" "ways" "[J") (List.mem_of_getElem? (i := 5) rfl)) (fun _ h9 => h9) rfl hin rfl (by decide +kernel) rfl rfl (Nat.le_of_ble_eq_true rfl) dX6_init_10 (fun H locs hP hD hS => ?_)
  have hP : va_P (dC, dI) vwCl [(h0, .inr (5, [.ref q_1])), (q_1, .inl (cA_2, 181, .inr (.inl (fun _ => 0))))] H := hP
  have hD : va_D A [(h0, .inr (5, [.ref q_1])), (q_1, .inl (cA_2, 181, .inr (.inl (fun _ => 0))))] := hD
  have hP9 := hP.sub (ws' := [(h0, .inr (5, [.ref q_1])), (q_1, .inl (cA_2, 181, .inr (.inl (fun _ => 0))))]) [0, 1] rfl
  have hD9 := hD.sub (ws' := [(h0, .inr (5, [.ref q_1])), (q_1, .inl (cA_2, 181, .inr (.inl (fun _ => 0))))]) [0, 1] (by decide) rfl
  have hK9 := hK.sub (tys' := [(cA_2, .long)]) [0] rfl
  exact W.vret hx hb hr (fun t ht hW => ⟨⟨(), rfl, trivial, q_1, cA_2, by rw [ht]; exact hP9, va_K.moved hW.alike hK9, hD9⟩, hS.F ht⟩) hS.2.2 dX6_init_13
theorem dX1_init_0 : decode cX1_init 0 = .ok (.aload_n 0, 1) := by decide +kernel
theorem dX1_init_1 : decode cX1_init 1 = .ok (.invokespecial 3, 3) := by decide +kernel
theorem dX1_init_4 : decode cX1_init 4 = .ok (.aload_n 0, 1) := by decide +kernel
theorem dX1_init_5 : decode cX1_init 5 = .ok (.iconst (-1), 1) := by decide +kernel
theorem dX1_init_6 : decode cX1_init 6 = .ok (.putfield 9, 3) := by decide +kernel
theorem dX1_init_9 : decode cX1_init 9 = .ok (.aload_n 0, 1) := by decide +kernel
theorem dX1_init_10 : decode cX1_init 10 = .ok (.aload_n 1, 1) := by decide +kernel
theorem dX1_init_11 : decode cX1_init 11 = .ok (.putfield 15, 3) := by decide +kernel
theorem dX1_init_14 : decode cX1_init 14 = .ok (.aload_n 0, 1) := by decide +kernel
theorem dX1_init_15 : decode cX1_init 15 = .ok (.aload_n 2, 1) := by decide +kernel
theorem dX1_init_16 : decode cX1_init 16 = .ok (.putfield 19, 3) := by decide +kernel
theorem dX1_init_19 : decode cX1_init 19 = .ok (.return_, 1) := by decide +kernel
def uX1_init : List Cond := .code yX1_init cX1_init 3 none :: ([.methodLink RX1 3 objectInit, .instanceMethod objectInit, .code objectInit ⟨#[0xb1]⟩ 1 none, .fieldLink RX1 9 "LuckyTicket$Reader" "faultPlace" "I", .fieldLink RX1 15 "LuckyTicket$Reader" "tape" "LLuckyTicket$Tape;", .fieldLink RX1 19 "LuckyTicket$Reader" "script" "LLuckyTicket$Script;"] ++ wsX10)
theorem iX1_init_X1 : ∀ w ∈ wsX10, w ∈ uX1_init := fun _ h => List.mem_cons_of_mem _ (List.mem_append_right _ h)
set_option maxHeartbeats 4000000 in
set_option maxRecDepth 100000 in
theorem kX1_init (l : Launch) (dC : Nat → ClassId) (dI : Nat → Nat → Nat) (h0 : Nat) (tp : Nat) (sc : Nat) (sz : Nat) : Met l yX1_init uX1_init ({ frames := 1, cells := 0, slots := 0, locals := 12 }) (va_Pc [.ref h0, .ref tp, .ref sc] (hw (dC, dI) vwCl [(h0, .inr (0, [.null, .null, .int 0, .int 0, .int 0, .int 0, .int 0, .int 0, .int 0]))] [] sz)) (va_Qv (fun (_ : Unit) => True) (fun (_ : Unit) t => va_P (dC, dI) vwCl [(h0, .inr (0, [.ref tp, .ref sc, .int 0, .int (-1), .int 0, .int 0, .int 0, .int 0, .int 0]))] t.heap ∧ va_K (dC, dI) vwCl [] t ∧ va_D (va_A [(h0, .inr (0, [.null, .null, .int 0, .int 0, .int 0, .int 0, .int 0, .int 0, .int 0]))] sz) [(h0, .inr (0, [.ref tp, .ref sc, .int 0, .int (-1), .int 0, .int 0, .int 0, .int 0, .int 0]))]) (va_A [(h0, .inr (0, [.null, .null, .int 0, .int 0, .int 0, .int 0, .int 0, .int 0, .int 0]))] sz)) 0 0 (va_A [(h0, .inr (0, [.null, .null, .int 0, .int 0, .int 0, .int 0, .int 0, .int 0, .int 0]))] sz) := by
  refine Met.ofW (cc := cX1_init) (maxL := 3) (ret := none) (by decide) rfl ?_
  intro p e s m args below meth c s₁ B hml hv
  obtain ⟨rfl, hsz, hP, hK, hD0, hN⟩ := hv
  have hx := B.exec
  have hb := B.bytes
  have hr := B.returns
  have hts := atoms_spec (ws := uX1_init) B.pre
  have hown : s.vm.findClass RX1 = some m.cls := findClass_of_methodNamed B.named
  have hlocks := B.notSynchronized
  have hin : meth.name = "<init>" := (name_of_methodNamed B.named B.method).1
  subst hsz
  have hD := hD0.self (sz := s.heap.size)
  generalize hAe : va_A [(h0, .inr (0, [.null, .null, .int 0, .int 0, .int 0, .int 0, .int 0, .int 0, .int 0]))] s.heap.size = A at hD ⊢
  have hA : ∀ q : Nat, s.heap.size ≤ q → A q := fun q h => by rw [← hAe]; exact Or.inr h
  have hS : va_S A s.heap s.heap [] := va_S.rf
  have hP : va_P (dC, dI) vwCl [(h0, .inr (0, [.null, .null, .int 0, .int 0, .int 0, .int 0, .int 0, .int 0, .int 0]))] s.heap := hP
  have hl := lv_entry ([.ref h0, .ref tp, .ref sc]) (n := 3) (Nat.le_of_ble_eq_true rfl)
  rw [lg_entry_eq]
  generalize (lg_sl ([.ref h0, .ref tp, .ref sc]) ++ List.replicate (3 - (lg_sl ([.ref h0, .ref tp, .ref sc])).length) Slot.unset).toArray = ls at hl ⊢
  have hl : lv_has ls 3 [(0, .ref h0), (1, .ref tp), (2, .ref sc)] := hl
  refine lv_aload_n hx hb dX1_init_0 rfl (lv_at hl 0 rfl) ?_
  refine W.objInit hx hb hown (hts (.methodLink RX1 3 objectInit) (List.mem_of_getElem? (i := 1) rfl)) (hts (.instanceMethod objectInit) (List.mem_of_getElem? (i := 2) rfl)) (hts (.code objectInit ⟨#[0xb1]⟩ 1 none) (List.mem_of_getElem? (i := 3) rfl)) rfl (by rw [hml]; exact hl.1) rfl dX1_init_1 (Nat.le_of_ble_eq_true rfl) (Nat.le_of_ble_eq_true rfl) ?_
  refine W.eq (g2 := F0 m 4 ls []) rfl ?_
  refine lv_aload_n hx hb dX1_init_4 rfl (lv_at hl 0 rfl) ?_
  refine lv_iconst (v := (-1)) hx hb dX1_init_5 (by decide) ?_
  refine va_put (D := (dC, dI)) (ci := 0) (v := .int (-1)) (ty := .int) (C := RX1) (T := TX1) (N := 9) hx hb hts iX1_init_X1 tyX1 tyX1_ok nmX1 hown hK hP hD hS 0 rfl rfl 3 (by decide) (hts (.fieldLink RX1 9 "LuckyTicket$Reader" "faultPlace" "I") (List.mem_of_getElem? (i := 4) rfl)) (fun _ h9 => h9) rfl (by decide +kernel) rfl rfl (Nat.le_of_ble_eq_true rfl) dX1_init_6 (fun H locs hP hD hS => ?_)
  have hP : va_P (dC, dI) vwCl [(h0, .inr (0, [.null, .null, .int 0, .int (-1), .int 0, .int 0, .int 0, .int 0, .int 0]))] H := hP
  have hD : va_D A [(h0, .inr (0, [.null, .null, .int 0, .int (-1), .int 0, .int 0, .int 0, .int 0, .int 0]))] := hD
  refine lv_aload_n hx hb dX1_init_9 rfl (lv_at hl 0 rfl) ?_
  refine lv_aload_n hx hb dX1_init_10 rfl (lv_at hl 1 rfl) ?_
  refine va_putF (D := (dC, dI)) (ci := 0) (v := .ref tp) (ty := .object "LuckyTicket$Tape") (C := RX1) (T := TX1) (N := 9) hx hb hts iX1_init_X1 tyX1 tyX1_ok nmX1 hown hK hP hD hS 0 rfl rfl 0 (by decide) (hts (.fieldLink RX1 15 "LuckyTicket$Reader" "tape" "LLuckyTicket$Tape;") (List.mem_of_getElem? (i := 5) rfl)) (fun _ h9 => h9) rfl hin rfl (by decide +kernel) rfl rfl (Nat.le_of_ble_eq_true rfl) dX1_init_11 (fun H locs hP hD hS => ?_)
  have hP : va_P (dC, dI) vwCl [(h0, .inr (0, [.ref tp, .null, .int 0, .int (-1), .int 0, .int 0, .int 0, .int 0, .int 0]))] H := hP
  have hD : va_D A [(h0, .inr (0, [.ref tp, .null, .int 0, .int (-1), .int 0, .int 0, .int 0, .int 0, .int 0]))] := hD
  refine lv_aload_n hx hb dX1_init_14 rfl (lv_at hl 0 rfl) ?_
  refine lv_aload_n hx hb dX1_init_15 rfl (lv_at hl 2 rfl) ?_
  refine va_putF (D := (dC, dI)) (ci := 0) (v := .ref sc) (ty := .object "LuckyTicket$Script") (C := RX1) (T := TX1) (N := 9) hx hb hts iX1_init_X1 tyX1 tyX1_ok nmX1 hown hK hP hD hS 0 rfl rfl 1 (by decide) (hts (.fieldLink RX1 19 "LuckyTicket$Reader" "script" "LLuckyTicket$Script;") (List.mem_of_getElem? (i := 6) rfl)) (fun _ h9 => h9) rfl hin rfl (by decide +kernel) rfl rfl (Nat.le_of_ble_eq_true rfl) dX1_init_16 (fun H locs hP hD hS => ?_)
  have hP : va_P (dC, dI) vwCl [(h0, .inr (0, [.ref tp, .ref sc, .int 0, .int (-1), .int 0, .int 0, .int 0, .int 0, .int 0]))] H := hP
  have hD : va_D A [(h0, .inr (0, [.ref tp, .ref sc, .int 0, .int (-1), .int 0, .int 0, .int 0, .int 0, .int 0]))] := hD
  have hP9 := hP.sub (ws' := [(h0, .inr (0, [.ref tp, .ref sc, .int 0, .int (-1), .int 0, .int 0, .int 0, .int 0, .int 0]))]) [0] rfl
  have hD9 := hD.sub (ws' := [(h0, .inr (0, [.ref tp, .ref sc, .int 0, .int (-1), .int 0, .int 0, .int 0, .int 0, .int 0]))]) [0] (by decide) rfl
  have hK9 := hK.sub (tys' := []) [] rfl
  exact W.vret hx hb hr (fun t ht hW => ⟨⟨(), rfl, trivial, by rw [ht]; exact hP9, va_K.moved hW.alike hK9, hD9⟩, hS.F ht⟩) hS.2.2 dX1_init_19
end
section
def hwo (D : va_G) (cl : List vw_C) (ws : va_W) (tys : List (ClassId × FieldType)) (sz : Nat) (U : State) : Prop := hw D cl ws tys sz U ∧ va_AO RX2 U ∧ va_AO RX3 U
theorem hwo_fb {av : List Value} {D : va_G} {cl : List vw_C} {ws : va_W} {tys : List (ClassId × FieldType)} {sz : Nat} : FrameBlind (va_Pc av (hwo D cl ws tys sz)) := fun a U g mk q => by
  obtain ⟨q0, ⟨qs, qP, qK, qD, qN⟩, q2, q3⟩ := q
  exact ⟨q0, ⟨qs, qP, va_K.moved (u := U) (U := U.calling g mk a) (Vm.Alike.refl U.vm) qK, qD, nst.same (u := U) (U := U.calling g mk a) rfl qN⟩, va_AO.moved (u := U) (U := U.calling g mk a) (Vm.Alike.refl U.vm) q2, va_AO.moved (u := U) (U := U.calling g mk a) (Vm.Alike.refl U.vm) q3⟩
def sf3 (a b c : Nat) : Nat → Option Nat := va_up (va_up (va_up (fun _ => none) (0 : Int32).toNatClampNeg (some a)) (1 : Int32).toNatClampNeg (some b)) (2 : Int32).toNatClampNeg (some c)
def sf4 (a b c d : Nat) : Nat → Option Nat := va_up (va_up (va_up (va_up (fun _ => none) (0 : Int32).toNatClampNeg (some a)) (1 : Int32).toNatClampNeg (some b)) (2 : Int32).toNatClampNeg (some c)) (3 : Int32).toNatClampNeg (some d)
theorem dX9_init_0 : decode cX9_init 0 = .ok (.aload_n 0, 1) := by decide +kernel
theorem dX9_init_1 : decode cX9_init 1 = .ok (.invokespecial 1, 3) := by decide +kernel
theorem dX9_init_4 : decode cX9_init 4 = .ok (.aload_n 0, 1) := by decide +kernel
theorem dX9_init_5 : decode cX9_init 5 = .ok (.new 7, 3) := by decide +kernel
theorem dX9_init_8 : decode cX9_init 8 = .ok (.dup, 1) := by decide +kernel
theorem dX9_init_9 : decode cX9_init 9 = .ok (.invokespecial 9, 3) := by decide +kernel
theorem dX9_init_12 : decode cX9_init 12 = .ok (.putfield 10, 3) := by decide +kernel
theorem dX9_init_15 : decode cX9_init 15 = .ok (.aload_n 0, 1) := by decide +kernel
theorem dX9_init_16 : decode cX9_init 16 = .ok (.new 16, 3) := by decide +kernel
theorem dX9_init_19 : decode cX9_init 19 = .ok (.dup, 1) := by decide +kernel
theorem dX9_init_20 : decode cX9_init 20 = .ok (.invokespecial 18, 3) := by decide +kernel
theorem dX9_init_23 : decode cX9_init 23 = .ok (.putfield 19, 3) := by decide +kernel
theorem dX9_init_26 : decode cX9_init 26 = .ok (.aload_n 0, 1) := by decide +kernel
theorem dX9_init_27 : decode cX9_init 27 = .ok (.new 23, 3) := by decide +kernel
theorem dX9_init_30 : decode cX9_init 30 = .ok (.dup, 1) := by decide +kernel
theorem dX9_init_31 : decode cX9_init 31 = .ok (.aload_n 0, 1) := by decide +kernel
theorem dX9_init_32 : decode cX9_init 32 = .ok (.getfield 10, 3) := by decide +kernel
theorem dX9_init_35 : decode cX9_init 35 = .ok (.aload_n 0, 1) := by decide +kernel
theorem dX9_init_36 : decode cX9_init 36 = .ok (.getfield 19, 3) := by decide +kernel
theorem dX9_init_39 : decode cX9_init 39 = .ok (.invokespecial 25, 3) := by decide +kernel
theorem dX9_init_42 : decode cX9_init 42 = .ok (.putfield 28, 3) := by decide +kernel
theorem dX9_init_45 : decode cX9_init 45 = .ok (.aload_n 0, 1) := by decide +kernel
theorem dX9_init_46 : decode cX9_init 46 = .ok (.new 32, 3) := by decide +kernel
theorem dX9_init_49 : decode cX9_init 49 = .ok (.dup, 1) := by decide +kernel
theorem dX9_init_50 : decode cX9_init 50 = .ok (.invokespecial 34, 3) := by decide +kernel
theorem dX9_init_53 : decode cX9_init 53 = .ok (.putfield 35, 3) := by decide +kernel
theorem dX9_init_56 : decode cX9_init 56 = .ok (.aload_n 0, 1) := by decide +kernel
theorem dX9_init_57 : decode cX9_init 57 = .ok (.iconst 3, 1) := by decide +kernel
theorem dX9_init_58 : decode cX9_init 58 = .ok (.anewarray 32, 3) := by decide +kernel
theorem dX9_init_61 : decode cX9_init 61 = .ok (.dup, 1) := by decide +kernel
theorem dX9_init_62 : decode cX9_init 62 = .ok (.iconst 0, 1) := by decide +kernel
theorem dX9_init_63 : decode cX9_init 63 = .ok (.new 32, 3) := by decide +kernel
theorem dX9_init_66 : decode cX9_init 66 = .ok (.dup, 1) := by decide +kernel
theorem dX9_init_67 : decode cX9_init 67 = .ok (.invokespecial 34, 3) := by decide +kernel
theorem dX9_init_70 : decode cX9_init 70 = .ok (.aastore, 1) := by decide +kernel
theorem dX9_init_71 : decode cX9_init 71 = .ok (.dup, 1) := by decide +kernel
theorem dX9_init_72 : decode cX9_init 72 = .ok (.iconst 1, 1) := by decide +kernel
theorem dX9_init_73 : decode cX9_init 73 = .ok (.new 32, 3) := by decide +kernel
theorem dX9_init_76 : decode cX9_init 76 = .ok (.dup, 1) := by decide +kernel
theorem dX9_init_77 : decode cX9_init 77 = .ok (.invokespecial 34, 3) := by decide +kernel
theorem dX9_init_80 : decode cX9_init 80 = .ok (.aastore, 1) := by decide +kernel
theorem dX9_init_81 : decode cX9_init 81 = .ok (.dup, 1) := by decide +kernel
theorem dX9_init_82 : decode cX9_init 82 = .ok (.iconst 2, 1) := by decide +kernel
theorem dX9_init_83 : decode cX9_init 83 = .ok (.new 32, 3) := by decide +kernel
theorem dX9_init_86 : decode cX9_init 86 = .ok (.dup, 1) := by decide +kernel
theorem dX9_init_87 : decode cX9_init 87 = .ok (.invokespecial 34, 3) := by decide +kernel
theorem dX9_init_90 : decode cX9_init 90 = .ok (.aastore, 1) := by decide +kernel
theorem dX9_init_91 : decode cX9_init 91 = .ok (.putfield 39, 3) := by decide +kernel
theorem dX9_init_94 : decode cX9_init 94 = .ok (.aload_n 0, 1) := by decide +kernel
theorem dX9_init_95 : decode cX9_init 95 = .ok (.aload_n 0, 1) := by decide +kernel
theorem dX9_init_96 : decode cX9_init 96 = .ok (.getfield 39, 3) := by decide +kernel
theorem dX9_init_99 : decode cX9_init 99 = .ok (.arraylength, 1) := by decide +kernel
theorem dX9_init_100 : decode cX9_init 100 = .ok (.newarray .boolean, 2) := by decide +kernel
theorem dX9_init_102 : decode cX9_init 102 = .ok (.putfield 43, 3) := by decide +kernel
theorem dX9_init_105 : decode cX9_init 105 = .ok (.aload_n 0, 1) := by decide +kernel
theorem dX9_init_106 : decode cX9_init 106 = .ok (.iconst 4, 1) := by decide +kernel
theorem dX9_init_107 : decode cX9_init 107 = .ok (.anewarray 47, 3) := by decide +kernel
theorem dX9_init_110 : decode cX9_init 110 = .ok (.dup, 1) := by decide +kernel
theorem dX9_init_111 : decode cX9_init 111 = .ok (.iconst 0, 1) := by decide +kernel
theorem dX9_init_112 : decode cX9_init 112 = .ok (.new 47, 3) := by decide +kernel
theorem dX9_init_115 : decode cX9_init 115 = .ok (.dup, 1) := by decide +kernel
theorem dX9_init_116 : decode cX9_init 116 = .ok (.invokespecial 49, 3) := by decide +kernel
theorem dX9_init_119 : decode cX9_init 119 = .ok (.aastore, 1) := by decide +kernel
theorem dX9_init_120 : decode cX9_init 120 = .ok (.dup, 1) := by decide +kernel
theorem dX9_init_121 : decode cX9_init 121 = .ok (.iconst 1, 1) := by decide +kernel
theorem dX9_init_122 : decode cX9_init 122 = .ok (.new 47, 3) := by decide +kernel
theorem dX9_init_125 : decode cX9_init 125 = .ok (.dup, 1) := by decide +kernel
theorem dX9_init_126 : decode cX9_init 126 = .ok (.invokespecial 49, 3) := by decide +kernel
theorem dX9_init_129 : decode cX9_init 129 = .ok (.aastore, 1) := by decide +kernel
theorem dX9_init_130 : decode cX9_init 130 = .ok (.dup, 1) := by decide +kernel
theorem dX9_init_131 : decode cX9_init 131 = .ok (.iconst 2, 1) := by decide +kernel
theorem dX9_init_132 : decode cX9_init 132 = .ok (.new 47, 3) := by decide +kernel
theorem dX9_init_135 : decode cX9_init 135 = .ok (.dup, 1) := by decide +kernel
theorem dX9_init_136 : decode cX9_init 136 = .ok (.invokespecial 49, 3) := by decide +kernel
theorem dX9_init_139 : decode cX9_init 139 = .ok (.aastore, 1) := by decide +kernel
theorem dX9_init_140 : decode cX9_init 140 = .ok (.dup, 1) := by decide +kernel
theorem dX9_init_141 : decode cX9_init 141 = .ok (.iconst 3, 1) := by decide +kernel
theorem dX9_init_142 : decode cX9_init 142 = .ok (.new 47, 3) := by decide +kernel
theorem dX9_init_145 : decode cX9_init 145 = .ok (.dup, 1) := by decide +kernel
theorem dX9_init_146 : decode cX9_init 146 = .ok (.invokespecial 49, 3) := by decide +kernel
theorem dX9_init_149 : decode cX9_init 149 = .ok (.aastore, 1) := by decide +kernel
theorem dX9_init_150 : decode cX9_init 150 = .ok (.putfield 50, 3) := by decide +kernel
theorem dX9_init_153 : decode cX9_init 153 = .ok (.aload_n 0, 1) := by decide +kernel
theorem dX9_init_154 : decode cX9_init 154 = .ok (.new 54, 3) := by decide +kernel
theorem dX9_init_157 : decode cX9_init 157 = .ok (.dup, 1) := by decide +kernel
theorem dX9_init_158 : decode cX9_init 158 = .ok (.invokespecial 56, 3) := by decide +kernel
theorem dX9_init_161 : decode cX9_init 161 = .ok (.putfield 57, 3) := by decide +kernel
theorem dX9_init_164 : decode cX9_init 164 = .ok (.aload_n 0, 1) := by decide +kernel
theorem dX9_init_165 : decode cX9_init 165 = .ok (.new 61, 3) := by decide +kernel
theorem dX9_init_168 : decode cX9_init 168 = .ok (.dup, 1) := by decide +kernel
theorem dX9_init_169 : decode cX9_init 169 = .ok (.invokespecial 63, 3) := by decide +kernel
theorem dX9_init_172 : decode cX9_init 172 = .ok (.putfield 64, 3) := by decide +kernel
theorem dX9_init_175 : decode cX9_init 175 = .ok (.aload_n 0, 1) := by decide +kernel
theorem dX9_init_176 : decode cX9_init 176 = .ok (.bipush 16, 2) := by decide +kernel
theorem dX9_init_178 : decode cX9_init 178 = .ok (.newarray .int, 2) := by decide +kernel
theorem dX9_init_180 : decode cX9_init 180 = .ok (.putfield 68, 3) := by decide +kernel
theorem dX9_init_183 : decode cX9_init 183 = .ok (.return_, 1) := by decide +kernel
def uX9_init : List Cond := .code yX9_init cX9_init 1 none :: ([.methodLink RX9 1 objectInit, .instanceMethod objectInit, .code objectInit ⟨#[0xb1]⟩ 1 none, .classLink RX9 7 RX7, .instantiable RX7 2, .initialized RX7, .code yX7_init cX7_init 1 none, .methodLink RX7 1 objectInit, .arrayClass .byte, .fieldLink RX7 9 "LuckyTicket$Tape" "bytes" "[B", .instanceMethod yX7_init, .fieldLink RX9 10 "LuckyTicket" "tape" "LLuckyTicket$Tape;", .classLink RX9 16 RX4, .instantiable RX4 9, .initialized RX4, .code yX4_init cX4_init 1 none, .methodLink RX4 5 objectInit, .arrayClass .int, .fieldLink RX4 11 "LuckyTicket$Script" "ends" "[I", .fieldLink RX4 17 "LuckyTicket$Script" "kinds" "[I", .arrayClass .long, .fieldLink RX4 20 "LuckyTicket$Script" "ones" "[J", .fieldLink RX4 24 "LuckyTicket$Script" "others" "[J", .instanceMethod yX4_init, .fieldLink RX9 19 "LuckyTicket" "script" "LLuckyTicket$Script;", .classLink RX9 23 RX1, .instantiable RX1 9, .initialized RX1, .code yX1_init cX1_init 3 none, .methodLink RX1 3 objectInit, .fieldLink RX1 9 "LuckyTicket$Reader" "faultPlace" "I", .fieldLink RX1 15 "LuckyTicket$Reader" "tape" "LLuckyTicket$Tape;", .fieldLink RX1 19 "LuckyTicket$Reader" "script" "LLuckyTicket$Script;", .methodLink RX9 25 yX1_init, .instanceMethod yX1_init, .fieldLink RX9 28 "LuckyTicket" "reader" "LLuckyTicket$Reader;", .classLink RX9 32 RX2, .instantiable RX2 7, .initialized RX2, .code yX2_init cX2_init 1 none, .methodLink RX2 3 objectInit, .fieldLink RX2 9 "LuckyTicket$Roll" "faces" "[J", .fieldLink RX2 15 "LuckyTicket$Roll" "luck" "[I", .instanceMethod yX2_init, .fieldLink RX9 35 "LuckyTicket" "current" "LLuckyTicket$Roll;", .fieldLink RX9 39 "LuckyTicket" "images" "[LLuckyTicket$Roll;", .arrayClass .boolean, .fieldLink RX9 43 "LuckyTicket" "imaged" "[Z", .classLink RX9 47 RX3, .instantiable RX3 3, .initialized RX3, .code yX3_init cX3_init 1 none, .methodLink RX3 3 objectInit, .fieldLink RX3 9 "LuckyTicket$Row" "width" "I", .fieldLink RX3 15 "LuckyTicket$Row" "numbers" "[J", .instanceMethod yX3_init, .fieldLink RX9 50 "LuckyTicket" "slots" "[LLuckyTicket$Row;", .classLink RX9 54 RX5, .instantiable RX5 3, .initialized RX5, .code yX5_init cX5_init 1 none, .methodLink RX5 3 objectInit, .fieldLink RX5 9 "LuckyTicket$Search" "queue" "[I", .fieldLink RX5 15 "LuckyTicket$Search" "far" "[I", .fieldLink RX5 18 "LuckyTicket$Search" "gone" "[B", .instanceMethod yX5_init, .fieldLink RX9 57 "LuckyTicket" "search" "LLuckyTicket$Search;", .classLink RX9 61 RX6, .instantiable RX6 1, .initialized RX6, .code yX6_init cX6_init 1 none, .methodLink RX6 1 objectInit, .fieldLink RX6 9 "LuckyTicket$SumTable" "ways" "[J", .instanceMethod yX6_init, .fieldLink RX9 64 "LuckyTicket" "sumTable" "LLuckyTicket$SumTable;", .fieldLink RX9 68 "LuckyTicket" "figureCounts" "[I"] ++ wsX70 ++ wsX90 ++ wsX40 ++ wsX10 ++ wsX20 ++ wsX30 ++ wsX50 ++ wsX60)
theorem iX9_init_X7 : ∀ w ∈ wsX70, w ∈ uX9_init := fun _ h => List.mem_cons_of_mem _ (List.mem_append_left _ (List.mem_append_left _ (List.mem_append_left _ (List.mem_append_left _ (List.mem_append_left _ (List.mem_append_left _ (List.mem_append_left _ (List.mem_append_right _ h))))))))
theorem iX9_init_X9 : ∀ w ∈ wsX90, w ∈ uX9_init := fun _ h => List.mem_cons_of_mem _ (List.mem_append_left _ (List.mem_append_left _ (List.mem_append_left _ (List.mem_append_left _ (List.mem_append_left _ (List.mem_append_left _ (List.mem_append_right _ h)))))))
theorem iX9_init_X4 : ∀ w ∈ wsX40, w ∈ uX9_init := fun _ h => List.mem_cons_of_mem _ (List.mem_append_left _ (List.mem_append_left _ (List.mem_append_left _ (List.mem_append_left _ (List.mem_append_left _ (List.mem_append_right _ h))))))
theorem iX9_init_X1 : ∀ w ∈ wsX10, w ∈ uX9_init := fun _ h => List.mem_cons_of_mem _ (List.mem_append_left _ (List.mem_append_left _ (List.mem_append_left _ (List.mem_append_left _ (List.mem_append_right _ h)))))
theorem iX9_init_X2 : ∀ w ∈ wsX20, w ∈ uX9_init := fun _ h => List.mem_cons_of_mem _ (List.mem_append_left _ (List.mem_append_left _ (List.mem_append_left _ (List.mem_append_right _ h))))
theorem iX9_init_X3 : ∀ w ∈ wsX30, w ∈ uX9_init := fun _ h => List.mem_cons_of_mem _ (List.mem_append_left _ (List.mem_append_left _ (List.mem_append_right _ h)))
theorem iX9_init_X5 : ∀ w ∈ wsX50, w ∈ uX9_init := fun _ h => List.mem_cons_of_mem _ (List.mem_append_left _ (List.mem_append_right _ h))
theorem iX9_init_X6 : ∀ w ∈ wsX60, w ∈ uX9_init := fun _ h => List.mem_cons_of_mem _ (List.mem_append_right _ h)
set_option maxRecDepth 20000 in
theorem gX9_init__X7_init_I : GoodIn uX9_init (uX7_init) := goodIn_p _ [7, 3] rfl (by decide +kernel)
set_option maxRecDepth 20000 in
theorem gX9_init__X4_init_I : GoodIn uX9_init (uX4_init) := goodIn_p _ [16, 3] rfl (by decide +kernel)
set_option maxRecDepth 20000 in
theorem gX9_init__X1_init_I : GoodIn uX9_init (uX1_init) := goodIn_p _ [29, 3] rfl (by decide +kernel)
set_option maxRecDepth 20000 in
theorem gX9_init__X2_init_I : GoodIn uX9_init (uX2_init) := goodIn_p _ [40, 3] rfl (by decide +kernel)
set_option maxRecDepth 20000 in
theorem gX9_init__X3_init_I : GoodIn uX9_init (uX3_init) := goodIn_p _ [52, 3] rfl (by decide +kernel)
set_option maxRecDepth 20000 in
theorem gX9_init__X5_init_I : GoodIn uX9_init (uX5_init) := goodIn_p _ [61, 3] rfl (by decide +kernel)
set_option maxRecDepth 20000 in
theorem gX9_init__X6_init_I : GoodIn uX9_init (uX6_init) := goodIn_p _ [71, 3] rfl (by decide +kernel)
set_option maxHeartbeats 4000000 in
set_option maxRecDepth 100000 in
theorem kX9_init (l : Launch) (dC : Nat → ClassId) (dI : Nat → Nat → Nat) (h0 : Nat) (sz : Nat) : Met l yX9_init uX9_init ({ frames := 2, cells := 38, slots := 3520, locals := 34 }) (va_Pc [.ref h0] (hwo (dC, dI) vwCl [(h0, .inr (7, [.null, .null, .null, .null, .null, .null, .null, .null, .null, .null]))] [] sz)) (va_Qv (fun (_ : Unit) => True) (fun (_ : Unit) t => ∃ (q_1 : Nat) (q_4 : Nat) (q_6 : Nat) (q_9 : Nat) (q_10 : Nat) (q_11 : Nat) (q_12 : Nat) (q_17 : Nat) (q_20 : Nat) (q_23 : Nat) (q_24 : Nat) (q_27 : Nat) (q_29 : Nat) (q_32 : Nat) (q_33 : Nat) (q_36 : Nat) (q_39 : Nat) (q_40 : Nat) (q_43 : Nat) (q_46 : Nat) (q_47 : Nat) (q_50 : Nat) (q_52 : Nat) (q_54 : Nat) (q_57 : Nat) (q_59 : Nat) (q_62 : Nat) (q_64 : Nat) (q_67 : Nat) (q_69 : Nat) (q_72 : Nat) (q_74 : Nat) (q_77 : Nat) (q_78 : Nat) (q_79 : Nat) (q_83 : Nat) (q_86 : Nat) (q_88 : Nat) (cA_5 : ClassId) (cA_13 : ClassId) (cA_14 : ClassId) (cA_15 : ClassId) (cA_16 : ClassId) (cA_25 : ClassId) (cA_26 : ClassId) (cA_28 : ClassId) (cA_34 : ClassId) (cA_35 : ClassId) (cA_41 : ClassId) (cA_42 : ClassId) (cA_48 : ClassId) (cA_49 : ClassId) (cA_51 : ClassId) (cA_53 : ClassId) (cA_58 : ClassId) (cA_63 : ClassId) (cA_68 : ClassId) (cA_73 : ClassId) (cA_80 : ClassId) (cA_81 : ClassId) (cA_82 : ClassId) (cA_87 : ClassId) (cA_89 : ClassId), va_P (dC, dI) vwCl [(h0, .inr (7, [.ref q_1, .ref q_6, .ref q_17, .ref q_20, .ref q_27, .ref q_50, .ref q_52, .ref q_74, .ref q_83, .ref q_88])), (q_1, .inr (6, [.ref q_4, .int 0])), (q_4, .inl (cA_5, 1200, .inl (fun _ => 0))), (q_6, .inr (3, [.int 0, .int 0, .int 0, .int 0, .int 0, .ref q_9, .ref q_10, .ref q_11, .ref q_12])), (q_9, .inl (cA_13, 9, .inl (fun _ => 0))), (q_10, .inl (cA_14, 600, .inl (fun _ => 0))), (q_11, .inl (cA_15, 600, .inr (.inl (fun _ => 0)))), (q_12, .inl (cA_16, 600, .inr (.inl (fun _ => 0)))), (q_17, .inr (0, [.ref q_1, .ref q_6, .int 0, .int (-1), .int 0, .int 0, .int 0, .int 0, .int 0])), (q_20, .inr (1, [.int 0, .int 0, .int 0, .int 0, .int 0, .ref q_23, .ref q_24])), (q_23, .inl (cA_25, 0, .inr (.inl (fun _ => 0)))), (q_24, .inl (cA_26, 0, .inl (fun _ => 0))), (q_27, .inl (cA_28, 3, .inr (.inr (.inr (.inr (sf3 q_29 q_36 q_43)))))), (q_29, .inr (1, [.int 0, .int 0, .int 0, .int 0, .int 0, .ref q_32, .ref q_33])), (q_32, .inl (cA_34, 0, .inr (.inl (fun _ => 0)))), (q_33, .inl (cA_35, 0, .inl (fun _ => 0))), (q_36, .inr (1, [.int 0, .int 0, .int 0, .int 0, .int 0, .ref q_39, .ref q_40])), (q_39, .inl (cA_41, 0, .inr (.inl (fun _ => 0)))), (q_40, .inl (cA_42, 0, .inl (fun _ => 0))), (q_43, .inr (1, [.int 0, .int 0, .int 0, .int 0, .int 0, .ref q_46, .ref q_47])), (q_46, .inl (cA_48, 0, .inr (.inl (fun _ => 0)))), (q_47, .inl (cA_49, 0, .inl (fun _ => 0))), (q_50, .inl (cA_51, 3, .inl (fun _ => 0))), (q_52, .inl (cA_53, 4, .inr (.inr (.inr (.inr (sf4 q_54 q_59 q_64 q_69)))))), (q_54, .inr (2, [.int (-1), .int 0, .ref q_57])), (q_57, .inl (cA_58, 60, .inr (.inl (fun _ => 0)))), (q_59, .inr (2, [.int (-1), .int 0, .ref q_62])), (q_62, .inl (cA_63, 60, .inr (.inl (fun _ => 0)))), (q_64, .inr (2, [.int (-1), .int 0, .ref q_67])), (q_67, .inl (cA_68, 60, .inr (.inl (fun _ => 0)))), (q_69, .inr (2, [.int (-1), .int 0, .ref q_72])), (q_72, .inl (cA_73, 60, .inr (.inl (fun _ => 0)))), (q_74, .inr (4, [.ref q_77, .ref q_78, .ref q_79])), (q_77, .inl (cA_80, 0, .inl (fun _ => 0))), (q_78, .inl (cA_81, 0, .inl (fun _ => 0))), (q_79, .inl (cA_82, 0, .inl (fun _ => 0))), (q_83, .inr (5, [.ref q_86])), (q_86, .inl (cA_87, 181, .inr (.inl (fun _ => 0)))), (q_88, .inl (cA_89, 16, .inl (fun _ => 0)))] t.heap ∧ va_K (dC, dI) vwCl [(cA_5, .byte), (cA_13, .int), (cA_14, .int), (cA_15, .long), (cA_16, .long), (cA_25, .long), (cA_26, .int), (cA_28, .object RX2), (cA_34, .long), (cA_35, .int), (cA_41, .long), (cA_42, .int), (cA_48, .long), (cA_49, .int), (cA_51, .boolean), (cA_53, .object RX3), (cA_58, .long), (cA_63, .long), (cA_68, .long), (cA_73, .long), (cA_80, .int), (cA_81, .int), (cA_82, .byte), (cA_87, .long), (cA_89, .int)] t ∧ va_D (va_A [(h0, .inr (7, [.null, .null, .null, .null, .null, .null, .null, .null, .null, .null]))] sz) [(h0, .inr (7, [.ref q_1, .ref q_6, .ref q_17, .ref q_20, .ref q_27, .ref q_50, .ref q_52, .ref q_74, .ref q_83, .ref q_88])), (q_1, .inr (6, [.ref q_4, .int 0])), (q_4, .inl (cA_5, 1200, .inl (fun _ => 0))), (q_6, .inr (3, [.int 0, .int 0, .int 0, .int 0, .int 0, .ref q_9, .ref q_10, .ref q_11, .ref q_12])), (q_9, .inl (cA_13, 9, .inl (fun _ => 0))), (q_10, .inl (cA_14, 600, .inl (fun _ => 0))), (q_11, .inl (cA_15, 600, .inr (.inl (fun _ => 0)))), (q_12, .inl (cA_16, 600, .inr (.inl (fun _ => 0)))), (q_17, .inr (0, [.ref q_1, .ref q_6, .int 0, .int (-1), .int 0, .int 0, .int 0, .int 0, .int 0])), (q_20, .inr (1, [.int 0, .int 0, .int 0, .int 0, .int 0, .ref q_23, .ref q_24])), (q_23, .inl (cA_25, 0, .inr (.inl (fun _ => 0)))), (q_24, .inl (cA_26, 0, .inl (fun _ => 0))), (q_27, .inl (cA_28, 3, .inr (.inr (.inr (.inr (sf3 q_29 q_36 q_43)))))), (q_29, .inr (1, [.int 0, .int 0, .int 0, .int 0, .int 0, .ref q_32, .ref q_33])), (q_32, .inl (cA_34, 0, .inr (.inl (fun _ => 0)))), (q_33, .inl (cA_35, 0, .inl (fun _ => 0))), (q_36, .inr (1, [.int 0, .int 0, .int 0, .int 0, .int 0, .ref q_39, .ref q_40])), (q_39, .inl (cA_41, 0, .inr (.inl (fun _ => 0)))), (q_40, .inl (cA_42, 0, .inl (fun _ => 0))), (q_43, .inr (1, [.int 0, .int 0, .int 0, .int 0, .int 0, .ref q_46, .ref q_47])), (q_46, .inl (cA_48, 0, .inr (.inl (fun _ => 0)))), (q_47, .inl (cA_49, 0, .inl (fun _ => 0))), (q_50, .inl (cA_51, 3, .inl (fun _ => 0))), (q_52, .inl (cA_53, 4, .inr (.inr (.inr (.inr (sf4 q_54 q_59 q_64 q_69)))))), (q_54, .inr (2, [.int (-1), .int 0, .ref q_57])), (q_57, .inl (cA_58, 60, .inr (.inl (fun _ => 0)))), (q_59, .inr (2, [.int (-1), .int 0, .ref q_62])), (q_62, .inl (cA_63, 60, .inr (.inl (fun _ => 0)))), (q_64, .inr (2, [.int (-1), .int 0, .ref q_67])), (q_67, .inl (cA_68, 60, .inr (.inl (fun _ => 0)))), (q_69, .inr (2, [.int (-1), .int 0, .ref q_72])), (q_72, .inl (cA_73, 60, .inr (.inl (fun _ => 0)))), (q_74, .inr (4, [.ref q_77, .ref q_78, .ref q_79])), (q_77, .inl (cA_80, 0, .inl (fun _ => 0))), (q_78, .inl (cA_81, 0, .inl (fun _ => 0))), (q_79, .inl (cA_82, 0, .inl (fun _ => 0))), (q_83, .inr (5, [.ref q_86])), (q_86, .inl (cA_87, 181, .inr (.inl (fun _ => 0)))), (q_88, .inl (cA_89, 16, .inl (fun _ => 0)))]) (va_A [(h0, .inr (7, [.null, .null, .null, .null, .null, .null, .null, .null, .null, .null]))] sz)) 38 3520 (va_A [(h0, .inr (7, [.null, .null, .null, .null, .null, .null, .null, .null, .null, .null]))] sz) := by
  refine Met.ofW (cc := cX9_init) (maxL := 1) (ret := none) (by decide) rfl ?_
  intro p e s m args below meth c s₁ B hml hv
  obtain ⟨rfl, ⟨hsz, hP, hK, hD0, hN⟩, hAO_X2, hAO_X3⟩ := hv
  have hx := B.exec
  have hb := B.bytes
  have hr := B.returns
  have hts := atoms_spec (ws := uX9_init) B.pre
  have hown : s.vm.findClass RX9 = some m.cls := findClass_of_methodNamed B.named
  have hlocks := B.notSynchronized
  have hin : meth.name = "<init>" := (name_of_methodNamed B.named B.method).1
  subst hsz
  have hD := hD0.self (sz := s.heap.size)
  generalize hAe : va_A [(h0, .inr (7, [.null, .null, .null, .null, .null, .null, .null, .null, .null, .null]))] s.heap.size = A at hD ⊢
  have hA : ∀ q : Nat, s.heap.size ≤ q → A q := fun q h => by rw [← hAe]; exact Or.inr h
  have hS : va_S A s.heap s.heap [] := va_S.rf
  have hP : va_P (dC, dI) vwCl [(h0, .inr (7, [.null, .null, .null, .null, .null, .null, .null, .null, .null, .null]))] s.heap := hP
  have hl := lv_entry ([.ref h0]) (n := 1) (Nat.le_of_ble_eq_true rfl)
  rw [lg_entry_eq]
  generalize (lg_sl ([.ref h0]) ++ List.replicate (1 - (lg_sl ([.ref h0])).length) Slot.unset).toArray = ls at hl ⊢
  have hl : lv_has ls 1 [(0, .ref h0)] := hl
  refine lv_aload_n hx hb dX9_init_0 rfl (lv_at hl 0 rfl) ?_
  refine W.objInit hx hb hown (hts (.methodLink RX9 1 objectInit) (List.mem_of_getElem? (i := 1) rfl)) (hts (.instanceMethod objectInit) (List.mem_of_getElem? (i := 2) rfl)) (hts (.code objectInit ⟨#[0xb1]⟩ 1 none) (List.mem_of_getElem? (i := 3) rfl)) rfl (by rw [hml]; exact hl.1) rfl dX9_init_1 (Nat.le_of_ble_eq_true rfl) (Nat.le_of_ble_eq_true rfl) ?_
  refine W.eq (g2 := F0 m 4 ls []) rfl ?_
  refine lv_aload_n hx hb dX9_init_4 rfl (lv_at hl 0 rfl) ?_
  refine va_new (ci := 6) (fs := [.null, .int 0]) (C := RX7) (T := TX7) (N := 2) hx hb hts iX9_init_X7 tyX7 tyX7_ok hown (hts (.classLink RX9 7 RX7) (List.mem_of_getElem? (i := 4) rfl)) (hts (.instantiable RX7 2) (List.mem_of_getElem? (i := 5) rfl)) (hts (.initialized RX7) (List.mem_of_getElem? (i := 6) rfl)) hK hP hD hS hA rfl (fun j hj => by rcases (show j = 0 ∨ j = 1 by omega) with rfl | rfl <;> rfl) (lel 1 38 rfl) (lel 2 3520 rfl) dX9_init_5 (fun q_1 H hP hD hS => ?_)
  have hP : va_P (dC, dI) vwCl [(h0, .inr (7, [.null, .null, .null, .null, .null, .null, .null, .null, .null, .null])), (q_1, .inr (6, [.null, .int 0]))] H := hP
  have hD : va_D A [(h0, .inr (7, [.null, .null, .null, .null, .null, .null, .null, .null, .null, .null])), (q_1, .inr (6, [.null, .int 0]))] := hD
  refine W.widen (k := 1) (n := 2) (lel _ _ rfl) (lel _ _ rfl) ?_
  refine lv_dup hx hb dX9_init_8 rfl ?_
  have hFc := va_free (wc := [(q_1, .inr (6, [.null, .int 0]))]) hD hS hA [1] rfl
  refine va_callv (va_runIN (As := []) (rest := [.ref q_1, .ref h0]) ⟨hx, hb, hml, hown, hts⟩ (kX7_init l dC dI q_1 (H.size)) ⟨va_cnB (host := RX9) 0 hts gX9_init__X7_init_I rfl rfl rfl (hN _ (List.mem_of_getElem? (i := 23) rfl)) (hts (.initialized RX7) (List.mem_of_getElem? (i := 6) rfl)) (by decide +kernel) ⟨lel 2 2 rfl, lel 32 34 rfl⟩, rfl, (hts (.instanceMethod yX7_init) (List.mem_of_getElem? (i := 11) rfl))⟩ ⟨hw_fb, (hw_use hP hD hK hN [1] rfl (by decide) rfl [] rfl)⟩ rfl rfl hl.1 rfl (lv_room (Nat.le_of_ble_eq_true rfl)) dX9_init_9 ⟨lel 2 38 rfl, lel 1202 3520 rfl⟩) hS (fun q _ h => hFc q h) hFc (fun u_3 t H1 locs ht hvm hwr_2 hB hz1 hk1 hS => ?_)
  obtain ⟨q_4, cA_5, hP1, hK1, hD1⟩ := hB
  rw [ht] at hP1
  have hK1 := va_K.moved hvm.symm hK1
  obtain ⟨hP, hD⟩ := va_join (wr := [(h0, .inr (7, [.null, .null, .null, .null, .null, .null, .null, .null, .null, .null]))]) (w1 := [(q_1, .inr (6, [.ref q_4, .int 0])), (q_4, .inl (cA_5, 1200, .inl (fun _ => 0)))]) hP hD [1] [0] rfl rfl (by decide) (by decide) hk1 hFc hP1 hD1
  have hK := (hK.sub (tys' := []) [] rfl).app hK1
  generalize H1 = H at hP hS ⊢
  have hP : va_P (dC, dI) vwCl [(h0, .inr (7, [.null, .null, .null, .null, .null, .null, .null, .null, .null, .null])), (q_1, .inr (6, [.ref q_4, .int 0])), (q_4, .inl (cA_5, 1200, .inl (fun _ => 0)))] H := hP
  have hD : va_D A [(h0, .inr (7, [.null, .null, .null, .null, .null, .null, .null, .null, .null, .null])), (q_1, .inr (6, [.ref q_4, .int 0])), (q_4, .inl (cA_5, 1200, .inl (fun _ => 0)))] := hD
  have hK : va_K (dC, dI) vwCl [(cA_5, .byte)] s := hK
  refine W.widen (k := 2) (n := 1202) (lel _ _ rfl) (lel _ _ rfl) ?_
  refine va_putF (D := (dC, dI)) (ci := 7) (v := .ref q_1) (ty := .object "LuckyTicket$Tape") (C := RX9) (T := TX9) (N := 10) hx hb hts iX9_init_X9 tyX9 tyX9_ok nmX9 hown hK hP hD hS 0 rfl rfl 0 (by decide) (hts (.fieldLink RX9 10 "LuckyTicket" "tape" "LLuckyTicket$Tape;") (List.mem_of_getElem? (i := 12) rfl)) (fun _ h9 => h9) rfl hin rfl (by decide +kernel) rfl rfl (Nat.le_of_ble_eq_true rfl) dX9_init_12 (fun H locs hP hD hS => ?_)
  have hP : va_P (dC, dI) vwCl [(h0, .inr (7, [.ref q_1, .null, .null, .null, .null, .null, .null, .null, .null, .null])), (q_1, .inr (6, [.ref q_4, .int 0])), (q_4, .inl (cA_5, 1200, .inl (fun _ => 0)))] H := hP
  have hD : va_D A [(h0, .inr (7, [.ref q_1, .null, .null, .null, .null, .null, .null, .null, .null, .null])), (q_1, .inr (6, [.ref q_4, .int 0])), (q_4, .inl (cA_5, 1200, .inl (fun _ => 0)))] := hD
  refine lv_aload_n hx hb dX9_init_15 rfl (lv_at hl 0 rfl) ?_
  refine va_new (ci := 3) (fs := [.int 0, .int 0, .int 0, .int 0, .int 0, .null, .null, .null, .null]) (C := RX4) (T := TX4) (N := 9) hx hb hts iX9_init_X4 tyX4 tyX4_ok hown (hts (.classLink RX9 16 RX4) (List.mem_of_getElem? (i := 13) rfl)) (hts (.instantiable RX4 9) (List.mem_of_getElem? (i := 14) rfl)) (hts (.initialized RX4) (List.mem_of_getElem? (i := 15) rfl)) hK hP hD hS hA rfl (fun j hj => by rcases (show j = 0 ∨ j = 1 ∨ j = 2 ∨ j = 3 ∨ j = 4 ∨ j = 5 ∨ j = 6 ∨ j = 7 ∨ j = 8 by omega) with rfl | rfl | rfl | rfl | rfl | rfl | rfl | rfl | rfl <;> rfl) (lel 3 38 rfl) (lel 1211 3520 rfl) dX9_init_16 (fun q_6 H hP hD hS => ?_)
  have hP : va_P (dC, dI) vwCl [(h0, .inr (7, [.ref q_1, .null, .null, .null, .null, .null, .null, .null, .null, .null])), (q_1, .inr (6, [.ref q_4, .int 0])), (q_4, .inl (cA_5, 1200, .inl (fun _ => 0))), (q_6, .inr (3, [.int 0, .int 0, .int 0, .int 0, .int 0, .null, .null, .null, .null]))] H := hP
  have hD : va_D A [(h0, .inr (7, [.ref q_1, .null, .null, .null, .null, .null, .null, .null, .null, .null])), (q_1, .inr (6, [.ref q_4, .int 0])), (q_4, .inl (cA_5, 1200, .inl (fun _ => 0))), (q_6, .inr (3, [.int 0, .int 0, .int 0, .int 0, .int 0, .null, .null, .null, .null]))] := hD
  refine W.widen (k := 3) (n := 1211) (lel _ _ rfl) (lel _ _ rfl) ?_
  refine lv_dup hx hb dX9_init_19 rfl ?_
  have hFc := va_free (wc := [(q_6, .inr (3, [.int 0, .int 0, .int 0, .int 0, .int 0, .null, .null, .null, .null]))]) hD hS hA [3] rfl
  refine va_callv (va_runIN (As := []) (rest := [.ref q_6, .ref h0]) ⟨hx, hb, hml, hown, hts⟩ (kX4_init l dC dI q_6 (H.size)) ⟨va_cnB (host := RX9) 0 hts gX9_init__X4_init_I rfl rfl rfl (hN _ (List.mem_of_getElem? (i := 24) rfl)) (hts (.initialized RX4) (List.mem_of_getElem? (i := 15) rfl)) (by decide +kernel) ⟨lel 2 2 rfl, lel 32 34 rfl⟩, rfl, (hts (.instanceMethod yX4_init) (List.mem_of_getElem? (i := 24) rfl))⟩ ⟨hw_fb, (hw_use hP hD hK hN [3] rfl (by decide) rfl [] rfl)⟩ rfl rfl hl.1 rfl (lv_room (Nat.le_of_ble_eq_true rfl)) dX9_init_20 ⟨lel 7 38 rfl, lel 3020 3520 rfl⟩) hS (fun q _ h => hFc q h) hFc (fun u_8 t H1 locs ht hvm hwr_7 hB hz1 hk1 hS => ?_)
  obtain ⟨q_9, q_10, q_11, q_12, cA_13, cA_14, cA_15, cA_16, hP1, hK1, hD1⟩ := hB
  rw [ht] at hP1
  have hK1 := va_K.moved hvm.symm hK1
  obtain ⟨hP, hD⟩ := va_join (wr := [(h0, .inr (7, [.ref q_1, .null, .null, .null, .null, .null, .null, .null, .null, .null])), (q_1, .inr (6, [.ref q_4, .int 0])), (q_4, .inl (cA_5, 1200, .inl (fun _ => 0)))]) (w1 := [(q_6, .inr (3, [.int 0, .int 0, .int 0, .int 0, .int 0, .ref q_9, .ref q_10, .ref q_11, .ref q_12])), (q_9, .inl (cA_13, 9, .inl (fun _ => 0))), (q_10, .inl (cA_14, 600, .inl (fun _ => 0))), (q_11, .inl (cA_15, 600, .inr (.inl (fun _ => 0)))), (q_12, .inl (cA_16, 600, .inr (.inl (fun _ => 0))))]) hP hD [3] [0, 1, 2] rfl rfl (by decide) (by decide) hk1 hFc hP1 hD1
  have hK := (hK.sub (tys' := [(cA_5, .byte)]) [0] rfl).app hK1
  generalize H1 = H at hP hS ⊢
  have hP : va_P (dC, dI) vwCl [(h0, .inr (7, [.ref q_1, .null, .null, .null, .null, .null, .null, .null, .null, .null])), (q_1, .inr (6, [.ref q_4, .int 0])), (q_4, .inl (cA_5, 1200, .inl (fun _ => 0))), (q_6, .inr (3, [.int 0, .int 0, .int 0, .int 0, .int 0, .ref q_9, .ref q_10, .ref q_11, .ref q_12])), (q_9, .inl (cA_13, 9, .inl (fun _ => 0))), (q_10, .inl (cA_14, 600, .inl (fun _ => 0))), (q_11, .inl (cA_15, 600, .inr (.inl (fun _ => 0)))), (q_12, .inl (cA_16, 600, .inr (.inl (fun _ => 0))))] H := hP
  have hD : va_D A [(h0, .inr (7, [.ref q_1, .null, .null, .null, .null, .null, .null, .null, .null, .null])), (q_1, .inr (6, [.ref q_4, .int 0])), (q_4, .inl (cA_5, 1200, .inl (fun _ => 0))), (q_6, .inr (3, [.int 0, .int 0, .int 0, .int 0, .int 0, .ref q_9, .ref q_10, .ref q_11, .ref q_12])), (q_9, .inl (cA_13, 9, .inl (fun _ => 0))), (q_10, .inl (cA_14, 600, .inl (fun _ => 0))), (q_11, .inl (cA_15, 600, .inr (.inl (fun _ => 0)))), (q_12, .inl (cA_16, 600, .inr (.inl (fun _ => 0))))] := hD
  have hK : va_K (dC, dI) vwCl [(cA_5, .byte), (cA_13, .int), (cA_14, .int), (cA_15, .long), (cA_16, .long)] s := hK
  refine W.widen (k := 7) (n := 3020) (lel _ _ rfl) (lel _ _ rfl) ?_
  refine va_putF (D := (dC, dI)) (ci := 7) (v := .ref q_6) (ty := .object "LuckyTicket$Script") (C := RX9) (T := TX9) (N := 10) hx hb hts iX9_init_X9 tyX9 tyX9_ok nmX9 hown hK hP hD hS 0 rfl rfl 1 (by decide) (hts (.fieldLink RX9 19 "LuckyTicket" "script" "LLuckyTicket$Script;") (List.mem_of_getElem? (i := 25) rfl)) (fun _ h9 => h9) rfl hin rfl (by decide +kernel) rfl rfl (Nat.le_of_ble_eq_true rfl) dX9_init_23 (fun H locs hP hD hS => ?_)
  have hP : va_P (dC, dI) vwCl [(h0, .inr (7, [.ref q_1, .ref q_6, .null, .null, .null, .null, .null, .null, .null, .null])), (q_1, .inr (6, [.ref q_4, .int 0])), (q_4, .inl (cA_5, 1200, .inl (fun _ => 0))), (q_6, .inr (3, [.int 0, .int 0, .int 0, .int 0, .int 0, .ref q_9, .ref q_10, .ref q_11, .ref q_12])), (q_9, .inl (cA_13, 9, .inl (fun _ => 0))), (q_10, .inl (cA_14, 600, .inl (fun _ => 0))), (q_11, .inl (cA_15, 600, .inr (.inl (fun _ => 0)))), (q_12, .inl (cA_16, 600, .inr (.inl (fun _ => 0))))] H := hP
  have hD : va_D A [(h0, .inr (7, [.ref q_1, .ref q_6, .null, .null, .null, .null, .null, .null, .null, .null])), (q_1, .inr (6, [.ref q_4, .int 0])), (q_4, .inl (cA_5, 1200, .inl (fun _ => 0))), (q_6, .inr (3, [.int 0, .int 0, .int 0, .int 0, .int 0, .ref q_9, .ref q_10, .ref q_11, .ref q_12])), (q_9, .inl (cA_13, 9, .inl (fun _ => 0))), (q_10, .inl (cA_14, 600, .inl (fun _ => 0))), (q_11, .inl (cA_15, 600, .inr (.inl (fun _ => 0)))), (q_12, .inl (cA_16, 600, .inr (.inl (fun _ => 0))))] := hD
  refine lv_aload_n hx hb dX9_init_26 rfl (lv_at hl 0 rfl) ?_
  refine va_new (ci := 0) (fs := [.null, .null, .int 0, .int 0, .int 0, .int 0, .int 0, .int 0, .int 0]) (C := RX1) (T := TX1) (N := 9) hx hb hts iX9_init_X1 tyX1 tyX1_ok hown (hts (.classLink RX9 23 RX1) (List.mem_of_getElem? (i := 26) rfl)) (hts (.instantiable RX1 9) (List.mem_of_getElem? (i := 27) rfl)) (hts (.initialized RX1) (List.mem_of_getElem? (i := 28) rfl)) hK hP hD hS hA rfl (fun j hj => by rcases (show j = 0 ∨ j = 1 ∨ j = 2 ∨ j = 3 ∨ j = 4 ∨ j = 5 ∨ j = 6 ∨ j = 7 ∨ j = 8 by omega) with rfl | rfl | rfl | rfl | rfl | rfl | rfl | rfl | rfl <;> rfl) (lel 8 38 rfl) (lel 3029 3520 rfl) dX9_init_27 (fun q_17 H hP hD hS => ?_)
  have hP : va_P (dC, dI) vwCl [(h0, .inr (7, [.ref q_1, .ref q_6, .null, .null, .null, .null, .null, .null, .null, .null])), (q_1, .inr (6, [.ref q_4, .int 0])), (q_4, .inl (cA_5, 1200, .inl (fun _ => 0))), (q_6, .inr (3, [.int 0, .int 0, .int 0, .int 0, .int 0, .ref q_9, .ref q_10, .ref q_11, .ref q_12])), (q_9, .inl (cA_13, 9, .inl (fun _ => 0))), (q_10, .inl (cA_14, 600, .inl (fun _ => 0))), (q_11, .inl (cA_15, 600, .inr (.inl (fun _ => 0)))), (q_12, .inl (cA_16, 600, .inr (.inl (fun _ => 0)))), (q_17, .inr (0, [.null, .null, .int 0, .int 0, .int 0, .int 0, .int 0, .int 0, .int 0]))] H := hP
  have hD : va_D A [(h0, .inr (7, [.ref q_1, .ref q_6, .null, .null, .null, .null, .null, .null, .null, .null])), (q_1, .inr (6, [.ref q_4, .int 0])), (q_4, .inl (cA_5, 1200, .inl (fun _ => 0))), (q_6, .inr (3, [.int 0, .int 0, .int 0, .int 0, .int 0, .ref q_9, .ref q_10, .ref q_11, .ref q_12])), (q_9, .inl (cA_13, 9, .inl (fun _ => 0))), (q_10, .inl (cA_14, 600, .inl (fun _ => 0))), (q_11, .inl (cA_15, 600, .inr (.inl (fun _ => 0)))), (q_12, .inl (cA_16, 600, .inr (.inl (fun _ => 0)))), (q_17, .inr (0, [.null, .null, .int 0, .int 0, .int 0, .int 0, .int 0, .int 0, .int 0]))] := hD
  refine W.widen (k := 8) (n := 3029) (lel _ _ rfl) (lel _ _ rfl) ?_
  refine lv_dup hx hb dX9_init_30 rfl ?_
  refine lv_aload_n hx hb dX9_init_31 rfl (lv_at hl 0 rfl) ?_
  refine va_get (D := (dC, dI)) (ci := 7) (v := .ref q_1) (C := RX9) (T := TX9) (N := 10) hx hb hts iX9_init_X9 hown hK hP 0 rfl rfl 0 (by decide) (hts (.fieldLink RX9 10 "LuckyTicket" "tape" "LLuckyTicket$Tape;") (List.mem_of_getElem? (i := 12) rfl)) (fun _ h9 => h9) rfl dX9_init_32 ?_
  refine lv_aload_n hx hb dX9_init_35 rfl (lv_at hl 0 rfl) ?_
  refine va_get (D := (dC, dI)) (ci := 7) (v := .ref q_6) (C := RX9) (T := TX9) (N := 10) hx hb hts iX9_init_X9 hown hK hP 0 rfl rfl 1 (by decide) (hts (.fieldLink RX9 19 "LuckyTicket" "script" "LLuckyTicket$Script;") (List.mem_of_getElem? (i := 25) rfl)) (fun _ h9 => h9) rfl dX9_init_36 ?_
  have hFc := va_free (wc := [(q_17, .inr (0, [.null, .null, .int 0, .int 0, .int 0, .int 0, .int 0, .int 0, .int 0]))]) hD hS hA [8] rfl
  refine va_callv (va_runI (As := [.ref q_1, .ref q_6]) (rest := [.ref q_17, .ref h0]) ⟨hx, hb, hml, hown, hts⟩ (kX1_init l dC dI q_17 q_1 q_6 (H.size)) (cwI 2 hts gX9_init__X1_init_I rfl rfl rfl (hts (.initialized RX1) (List.mem_of_getElem? (i := 28) rfl)) (hts (.methodLink RX9 25 yX1_init) (List.mem_of_getElem? (i := 34) rfl)) (hts (.instanceMethod yX1_init) (List.mem_of_getElem? (i := 35) rfl)) rfl (by decide +kernel) ⟨lel 2 2 rfl, lel 34 34 rfl⟩) ⟨hw_fb, (hw_use hP hD hK hN [8] rfl (by decide) rfl [] rfl)⟩ rfl rfl hl.1 rfl (lv_room (Nat.le_of_ble_eq_true rfl)) dX9_init_39 ⟨lel 8 38 rfl, lel 3029 3520 rfl⟩) hS (fun q _ h => hFc q h) hFc (fun u_19 t H1 locs ht hvm hwr_18 hB hz1 hk1 hS => ?_)
  obtain ⟨hP1, hK1, hD1⟩ := hB
  rw [ht] at hP1
  have hK1 := va_K.moved hvm.symm hK1
  obtain ⟨hP, hD⟩ := va_join (wr := [(h0, .inr (7, [.ref q_1, .ref q_6, .null, .null, .null, .null, .null, .null, .null, .null])), (q_1, .inr (6, [.ref q_4, .int 0])), (q_4, .inl (cA_5, 1200, .inl (fun _ => 0))), (q_6, .inr (3, [.int 0, .int 0, .int 0, .int 0, .int 0, .ref q_9, .ref q_10, .ref q_11, .ref q_12])), (q_9, .inl (cA_13, 9, .inl (fun _ => 0))), (q_10, .inl (cA_14, 600, .inl (fun _ => 0))), (q_11, .inl (cA_15, 600, .inr (.inl (fun _ => 0)))), (q_12, .inl (cA_16, 600, .inr (.inl (fun _ => 0))))]) (w1 := [(q_17, .inr (0, [.ref q_1, .ref q_6, .int 0, .int (-1), .int 0, .int 0, .int 0, .int 0, .int 0]))]) hP hD [8] [0, 1, 2, 3, 4, 5, 6, 7] rfl rfl (by decide) (by decide) hk1 hFc hP1 hD1
  have hK := (hK.sub (tys' := [(cA_5, .byte), (cA_13, .int), (cA_14, .int), (cA_15, .long), (cA_16, .long)]) [0, 1, 2, 3, 4] rfl).app hK1
  generalize H1 = H at hP hS ⊢
  have hP : va_P (dC, dI) vwCl [(h0, .inr (7, [.ref q_1, .ref q_6, .null, .null, .null, .null, .null, .null, .null, .null])), (q_1, .inr (6, [.ref q_4, .int 0])), (q_4, .inl (cA_5, 1200, .inl (fun _ => 0))), (q_6, .inr (3, [.int 0, .int 0, .int 0, .int 0, .int 0, .ref q_9, .ref q_10, .ref q_11, .ref q_12])), (q_9, .inl (cA_13, 9, .inl (fun _ => 0))), (q_10, .inl (cA_14, 600, .inl (fun _ => 0))), (q_11, .inl (cA_15, 600, .inr (.inl (fun _ => 0)))), (q_12, .inl (cA_16, 600, .inr (.inl (fun _ => 0)))), (q_17, .inr (0, [.ref q_1, .ref q_6, .int 0, .int (-1), .int 0, .int 0, .int 0, .int 0, .int 0]))] H := hP
  have hD : va_D A [(h0, .inr (7, [.ref q_1, .ref q_6, .null, .null, .null, .null, .null, .null, .null, .null])), (q_1, .inr (6, [.ref q_4, .int 0])), (q_4, .inl (cA_5, 1200, .inl (fun _ => 0))), (q_6, .inr (3, [.int 0, .int 0, .int 0, .int 0, .int 0, .ref q_9, .ref q_10, .ref q_11, .ref q_12])), (q_9, .inl (cA_13, 9, .inl (fun _ => 0))), (q_10, .inl (cA_14, 600, .inl (fun _ => 0))), (q_11, .inl (cA_15, 600, .inr (.inl (fun _ => 0)))), (q_12, .inl (cA_16, 600, .inr (.inl (fun _ => 0)))), (q_17, .inr (0, [.ref q_1, .ref q_6, .int 0, .int (-1), .int 0, .int 0, .int 0, .int 0, .int 0]))] := hD
  have hK : va_K (dC, dI) vwCl [(cA_5, .byte), (cA_13, .int), (cA_14, .int), (cA_15, .long), (cA_16, .long)] s := hK
  refine va_putF (D := (dC, dI)) (ci := 7) (v := .ref q_17) (ty := .object "LuckyTicket$Reader") (C := RX9) (T := TX9) (N := 10) hx hb hts iX9_init_X9 tyX9 tyX9_ok nmX9 hown hK hP hD hS 0 rfl rfl 2 (by decide) (hts (.fieldLink RX9 28 "LuckyTicket" "reader" "LLuckyTicket$Reader;") (List.mem_of_getElem? (i := 36) rfl)) (fun _ h9 => h9) rfl hin rfl (by decide +kernel) rfl rfl (Nat.le_of_ble_eq_true rfl) dX9_init_42 (fun H locs hP hD hS => ?_)
  have hP : va_P (dC, dI) vwCl [(h0, .inr (7, [.ref q_1, .ref q_6, .ref q_17, .null, .null, .null, .null, .null, .null, .null])), (q_1, .inr (6, [.ref q_4, .int 0])), (q_4, .inl (cA_5, 1200, .inl (fun _ => 0))), (q_6, .inr (3, [.int 0, .int 0, .int 0, .int 0, .int 0, .ref q_9, .ref q_10, .ref q_11, .ref q_12])), (q_9, .inl (cA_13, 9, .inl (fun _ => 0))), (q_10, .inl (cA_14, 600, .inl (fun _ => 0))), (q_11, .inl (cA_15, 600, .inr (.inl (fun _ => 0)))), (q_12, .inl (cA_16, 600, .inr (.inl (fun _ => 0)))), (q_17, .inr (0, [.ref q_1, .ref q_6, .int 0, .int (-1), .int 0, .int 0, .int 0, .int 0, .int 0]))] H := hP
  have hD : va_D A [(h0, .inr (7, [.ref q_1, .ref q_6, .ref q_17, .null, .null, .null, .null, .null, .null, .null])), (q_1, .inr (6, [.ref q_4, .int 0])), (q_4, .inl (cA_5, 1200, .inl (fun _ => 0))), (q_6, .inr (3, [.int 0, .int 0, .int 0, .int 0, .int 0, .ref q_9, .ref q_10, .ref q_11, .ref q_12])), (q_9, .inl (cA_13, 9, .inl (fun _ => 0))), (q_10, .inl (cA_14, 600, .inl (fun _ => 0))), (q_11, .inl (cA_15, 600, .inr (.inl (fun _ => 0)))), (q_12, .inl (cA_16, 600, .inr (.inl (fun _ => 0)))), (q_17, .inr (0, [.ref q_1, .ref q_6, .int 0, .int (-1), .int 0, .int 0, .int 0, .int 0, .int 0]))] := hD
  refine lv_aload_n hx hb dX9_init_45 rfl (lv_at hl 0 rfl) ?_
  refine va_new (ci := 1) (fs := [.int 0, .int 0, .int 0, .int 0, .int 0, .null, .null]) (C := RX2) (T := TX2) (N := 7) hx hb hts iX9_init_X2 tyX2 tyX2_ok hown (hts (.classLink RX9 32 RX2) (List.mem_of_getElem? (i := 37) rfl)) (hts (.instantiable RX2 7) (List.mem_of_getElem? (i := 38) rfl)) (hts (.initialized RX2) (List.mem_of_getElem? (i := 39) rfl)) hK hP hD hS hA rfl (fun j hj => by rcases (show j = 0 ∨ j = 1 ∨ j = 2 ∨ j = 3 ∨ j = 4 ∨ j = 5 ∨ j = 6 by omega) with rfl | rfl | rfl | rfl | rfl | rfl | rfl <;> rfl) (lel 9 38 rfl) (lel 3036 3520 rfl) dX9_init_46 (fun q_20 H hP hD hS => ?_)
  have hP : va_P (dC, dI) vwCl [(h0, .inr (7, [.ref q_1, .ref q_6, .ref q_17, .null, .null, .null, .null, .null, .null, .null])), (q_1, .inr (6, [.ref q_4, .int 0])), (q_4, .inl (cA_5, 1200, .inl (fun _ => 0))), (q_6, .inr (3, [.int 0, .int 0, .int 0, .int 0, .int 0, .ref q_9, .ref q_10, .ref q_11, .ref q_12])), (q_9, .inl (cA_13, 9, .inl (fun _ => 0))), (q_10, .inl (cA_14, 600, .inl (fun _ => 0))), (q_11, .inl (cA_15, 600, .inr (.inl (fun _ => 0)))), (q_12, .inl (cA_16, 600, .inr (.inl (fun _ => 0)))), (q_17, .inr (0, [.ref q_1, .ref q_6, .int 0, .int (-1), .int 0, .int 0, .int 0, .int 0, .int 0])), (q_20, .inr (1, [.int 0, .int 0, .int 0, .int 0, .int 0, .null, .null]))] H := hP
  have hD : va_D A [(h0, .inr (7, [.ref q_1, .ref q_6, .ref q_17, .null, .null, .null, .null, .null, .null, .null])), (q_1, .inr (6, [.ref q_4, .int 0])), (q_4, .inl (cA_5, 1200, .inl (fun _ => 0))), (q_6, .inr (3, [.int 0, .int 0, .int 0, .int 0, .int 0, .ref q_9, .ref q_10, .ref q_11, .ref q_12])), (q_9, .inl (cA_13, 9, .inl (fun _ => 0))), (q_10, .inl (cA_14, 600, .inl (fun _ => 0))), (q_11, .inl (cA_15, 600, .inr (.inl (fun _ => 0)))), (q_12, .inl (cA_16, 600, .inr (.inl (fun _ => 0)))), (q_17, .inr (0, [.ref q_1, .ref q_6, .int 0, .int (-1), .int 0, .int 0, .int 0, .int 0, .int 0])), (q_20, .inr (1, [.int 0, .int 0, .int 0, .int 0, .int 0, .null, .null]))] := hD
  refine W.widen (k := 9) (n := 3036) (lel _ _ rfl) (lel _ _ rfl) ?_
  refine lv_dup hx hb dX9_init_49 rfl ?_
  have hFc := va_free (wc := [(q_20, .inr (1, [.int 0, .int 0, .int 0, .int 0, .int 0, .null, .null]))]) hD hS hA [9] rfl
  refine va_callv (va_runIN (As := []) (rest := [.ref q_20, .ref h0]) ⟨hx, hb, hml, hown, hts⟩ (kX2_init l dC dI q_20 (H.size)) ⟨va_cnB (host := RX9) 0 hts gX9_init__X2_init_I rfl rfl rfl (hN _ (List.mem_of_getElem? (i := 25) rfl)) (hts (.initialized RX2) (List.mem_of_getElem? (i := 39) rfl)) (by decide +kernel) ⟨lel 2 2 rfl, lel 32 34 rfl⟩, rfl, (hts (.instanceMethod yX2_init) (List.mem_of_getElem? (i := 44) rfl))⟩ ⟨hw_fb, (hw_use hP hD hK hN [9] rfl (by decide) rfl [] rfl)⟩ rfl rfl hl.1 rfl (lv_room (Nat.le_of_ble_eq_true rfl)) dX9_init_50 ⟨lel 11 38 rfl, lel 3036 3520 rfl⟩) hS (fun q _ h => hFc q h) hFc (fun u_22 t H1 locs ht hvm hwr_21 hB hz1 hk1 hS => ?_)
  obtain ⟨q_23, q_24, cA_25, cA_26, hP1, hK1, hD1⟩ := hB
  rw [ht] at hP1
  have hK1 := va_K.moved hvm.symm hK1
  obtain ⟨hP, hD⟩ := va_join (wr := [(h0, .inr (7, [.ref q_1, .ref q_6, .ref q_17, .null, .null, .null, .null, .null, .null, .null])), (q_1, .inr (6, [.ref q_4, .int 0])), (q_4, .inl (cA_5, 1200, .inl (fun _ => 0))), (q_6, .inr (3, [.int 0, .int 0, .int 0, .int 0, .int 0, .ref q_9, .ref q_10, .ref q_11, .ref q_12])), (q_9, .inl (cA_13, 9, .inl (fun _ => 0))), (q_10, .inl (cA_14, 600, .inl (fun _ => 0))), (q_11, .inl (cA_15, 600, .inr (.inl (fun _ => 0)))), (q_12, .inl (cA_16, 600, .inr (.inl (fun _ => 0)))), (q_17, .inr (0, [.ref q_1, .ref q_6, .int 0, .int (-1), .int 0, .int 0, .int 0, .int 0, .int 0]))]) (w1 := [(q_20, .inr (1, [.int 0, .int 0, .int 0, .int 0, .int 0, .ref q_23, .ref q_24])), (q_23, .inl (cA_25, 0, .inr (.inl (fun _ => 0)))), (q_24, .inl (cA_26, 0, .inl (fun _ => 0)))]) hP hD [9] [0, 1, 2, 3, 4, 5, 6, 7, 8] rfl rfl (by decide) (by decide) hk1 hFc hP1 hD1
  have hK := (hK.sub (tys' := [(cA_5, .byte), (cA_13, .int), (cA_14, .int), (cA_15, .long), (cA_16, .long)]) [0, 1, 2, 3, 4] rfl).app hK1
  generalize H1 = H at hP hS ⊢
  have hP : va_P (dC, dI) vwCl [(h0, .inr (7, [.ref q_1, .ref q_6, .ref q_17, .null, .null, .null, .null, .null, .null, .null])), (q_1, .inr (6, [.ref q_4, .int 0])), (q_4, .inl (cA_5, 1200, .inl (fun _ => 0))), (q_6, .inr (3, [.int 0, .int 0, .int 0, .int 0, .int 0, .ref q_9, .ref q_10, .ref q_11, .ref q_12])), (q_9, .inl (cA_13, 9, .inl (fun _ => 0))), (q_10, .inl (cA_14, 600, .inl (fun _ => 0))), (q_11, .inl (cA_15, 600, .inr (.inl (fun _ => 0)))), (q_12, .inl (cA_16, 600, .inr (.inl (fun _ => 0)))), (q_17, .inr (0, [.ref q_1, .ref q_6, .int 0, .int (-1), .int 0, .int 0, .int 0, .int 0, .int 0])), (q_20, .inr (1, [.int 0, .int 0, .int 0, .int 0, .int 0, .ref q_23, .ref q_24])), (q_23, .inl (cA_25, 0, .inr (.inl (fun _ => 0)))), (q_24, .inl (cA_26, 0, .inl (fun _ => 0)))] H := hP
  have hD : va_D A [(h0, .inr (7, [.ref q_1, .ref q_6, .ref q_17, .null, .null, .null, .null, .null, .null, .null])), (q_1, .inr (6, [.ref q_4, .int 0])), (q_4, .inl (cA_5, 1200, .inl (fun _ => 0))), (q_6, .inr (3, [.int 0, .int 0, .int 0, .int 0, .int 0, .ref q_9, .ref q_10, .ref q_11, .ref q_12])), (q_9, .inl (cA_13, 9, .inl (fun _ => 0))), (q_10, .inl (cA_14, 600, .inl (fun _ => 0))), (q_11, .inl (cA_15, 600, .inr (.inl (fun _ => 0)))), (q_12, .inl (cA_16, 600, .inr (.inl (fun _ => 0)))), (q_17, .inr (0, [.ref q_1, .ref q_6, .int 0, .int (-1), .int 0, .int 0, .int 0, .int 0, .int 0])), (q_20, .inr (1, [.int 0, .int 0, .int 0, .int 0, .int 0, .ref q_23, .ref q_24])), (q_23, .inl (cA_25, 0, .inr (.inl (fun _ => 0)))), (q_24, .inl (cA_26, 0, .inl (fun _ => 0)))] := hD
  have hK : va_K (dC, dI) vwCl [(cA_5, .byte), (cA_13, .int), (cA_14, .int), (cA_15, .long), (cA_16, .long), (cA_25, .long), (cA_26, .int)] s := hK
  refine W.widen (k := 11) (n := 3036) (lel _ _ rfl) (lel _ _ rfl) ?_
  refine va_putF (D := (dC, dI)) (ci := 7) (v := .ref q_20) (ty := .object "LuckyTicket$Roll") (C := RX9) (T := TX9) (N := 10) hx hb hts iX9_init_X9 tyX9 tyX9_ok nmX9 hown hK hP hD hS 0 rfl rfl 3 (by decide) (hts (.fieldLink RX9 35 "LuckyTicket" "current" "LLuckyTicket$Roll;") (List.mem_of_getElem? (i := 45) rfl)) (fun _ h9 => h9) rfl hin rfl (by decide +kernel) rfl rfl (Nat.le_of_ble_eq_true rfl) dX9_init_53 (fun H locs hP hD hS => ?_)
  have hP : va_P (dC, dI) vwCl [(h0, .inr (7, [.ref q_1, .ref q_6, .ref q_17, .ref q_20, .null, .null, .null, .null, .null, .null])), (q_1, .inr (6, [.ref q_4, .int 0])), (q_4, .inl (cA_5, 1200, .inl (fun _ => 0))), (q_6, .inr (3, [.int 0, .int 0, .int 0, .int 0, .int 0, .ref q_9, .ref q_10, .ref q_11, .ref q_12])), (q_9, .inl (cA_13, 9, .inl (fun _ => 0))), (q_10, .inl (cA_14, 600, .inl (fun _ => 0))), (q_11, .inl (cA_15, 600, .inr (.inl (fun _ => 0)))), (q_12, .inl (cA_16, 600, .inr (.inl (fun _ => 0)))), (q_17, .inr (0, [.ref q_1, .ref q_6, .int 0, .int (-1), .int 0, .int 0, .int 0, .int 0, .int 0])), (q_20, .inr (1, [.int 0, .int 0, .int 0, .int 0, .int 0, .ref q_23, .ref q_24])), (q_23, .inl (cA_25, 0, .inr (.inl (fun _ => 0)))), (q_24, .inl (cA_26, 0, .inl (fun _ => 0)))] H := hP
  have hD : va_D A [(h0, .inr (7, [.ref q_1, .ref q_6, .ref q_17, .ref q_20, .null, .null, .null, .null, .null, .null])), (q_1, .inr (6, [.ref q_4, .int 0])), (q_4, .inl (cA_5, 1200, .inl (fun _ => 0))), (q_6, .inr (3, [.int 0, .int 0, .int 0, .int 0, .int 0, .ref q_9, .ref q_10, .ref q_11, .ref q_12])), (q_9, .inl (cA_13, 9, .inl (fun _ => 0))), (q_10, .inl (cA_14, 600, .inl (fun _ => 0))), (q_11, .inl (cA_15, 600, .inr (.inl (fun _ => 0)))), (q_12, .inl (cA_16, 600, .inr (.inl (fun _ => 0)))), (q_17, .inr (0, [.ref q_1, .ref q_6, .int 0, .int (-1), .int 0, .int 0, .int 0, .int 0, .int 0])), (q_20, .inr (1, [.int 0, .int 0, .int 0, .int 0, .int 0, .ref q_23, .ref q_24])), (q_23, .inl (cA_25, 0, .inr (.inl (fun _ => 0)))), (q_24, .inl (cA_26, 0, .inl (fun _ => 0)))] := hD
  refine lv_aload_n hx hb dX9_init_56 rfl (lv_at hl 0 rfl) ?_
  refine lv_iconst (v := 3) hx hb dX9_init_57 (by decide) ?_
  refine va_newq (C := RX2) (N' := 3) hx hb hown (hts (.classLink RX9 32 RX2) (List.mem_of_getElem? (i := 37) rfl)) hAO_X2 hK hP hD hS hA (by decide) (by decide) (by decide) (lel 12 38 rfl) (lel 3039 3520 rfl) dX9_init_58 (fun q_27 cA_28 H hK hP hD hS => ?_)
  have hP : va_P (dC, dI) vwCl [(h0, .inr (7, [.ref q_1, .ref q_6, .ref q_17, .ref q_20, .null, .null, .null, .null, .null, .null])), (q_1, .inr (6, [.ref q_4, .int 0])), (q_4, .inl (cA_5, 1200, .inl (fun _ => 0))), (q_6, .inr (3, [.int 0, .int 0, .int 0, .int 0, .int 0, .ref q_9, .ref q_10, .ref q_11, .ref q_12])), (q_9, .inl (cA_13, 9, .inl (fun _ => 0))), (q_10, .inl (cA_14, 600, .inl (fun _ => 0))), (q_11, .inl (cA_15, 600, .inr (.inl (fun _ => 0)))), (q_12, .inl (cA_16, 600, .inr (.inl (fun _ => 0)))), (q_17, .inr (0, [.ref q_1, .ref q_6, .int 0, .int (-1), .int 0, .int 0, .int 0, .int 0, .int 0])), (q_20, .inr (1, [.int 0, .int 0, .int 0, .int 0, .int 0, .ref q_23, .ref q_24])), (q_23, .inl (cA_25, 0, .inr (.inl (fun _ => 0)))), (q_24, .inl (cA_26, 0, .inl (fun _ => 0))), (q_27, .inl (cA_28, 3, .inr (.inr (.inr (.inr (fun _ => none))))))] H := hP
  have hD : va_D A [(h0, .inr (7, [.ref q_1, .ref q_6, .ref q_17, .ref q_20, .null, .null, .null, .null, .null, .null])), (q_1, .inr (6, [.ref q_4, .int 0])), (q_4, .inl (cA_5, 1200, .inl (fun _ => 0))), (q_6, .inr (3, [.int 0, .int 0, .int 0, .int 0, .int 0, .ref q_9, .ref q_10, .ref q_11, .ref q_12])), (q_9, .inl (cA_13, 9, .inl (fun _ => 0))), (q_10, .inl (cA_14, 600, .inl (fun _ => 0))), (q_11, .inl (cA_15, 600, .inr (.inl (fun _ => 0)))), (q_12, .inl (cA_16, 600, .inr (.inl (fun _ => 0)))), (q_17, .inr (0, [.ref q_1, .ref q_6, .int 0, .int (-1), .int 0, .int 0, .int 0, .int 0, .int 0])), (q_20, .inr (1, [.int 0, .int 0, .int 0, .int 0, .int 0, .ref q_23, .ref q_24])), (q_23, .inl (cA_25, 0, .inr (.inl (fun _ => 0)))), (q_24, .inl (cA_26, 0, .inl (fun _ => 0))), (q_27, .inl (cA_28, 3, .inr (.inr (.inr (.inr (fun _ => none))))))] := hD
  have hK : va_K (dC, dI) vwCl [(cA_5, .byte), (cA_13, .int), (cA_14, .int), (cA_15, .long), (cA_16, .long), (cA_25, .long), (cA_26, .int), (cA_28, .object RX2)] s := hK
  refine W.widen (k := 12) (n := 3039) (lel _ _ rfl) (lel _ _ rfl) ?_
  refine lv_dup hx hb dX9_init_61 rfl ?_
  refine lv_iconst (v := 0) hx hb dX9_init_62 (by decide) ?_
  refine va_new (ci := 1) (fs := [.int 0, .int 0, .int 0, .int 0, .int 0, .null, .null]) (C := RX2) (T := TX2) (N := 7) hx hb hts iX9_init_X2 tyX2 tyX2_ok hown (hts (.classLink RX9 32 RX2) (List.mem_of_getElem? (i := 37) rfl)) (hts (.instantiable RX2 7) (List.mem_of_getElem? (i := 38) rfl)) (hts (.initialized RX2) (List.mem_of_getElem? (i := 39) rfl)) hK hP hD hS hA rfl (fun j hj => by rcases (show j = 0 ∨ j = 1 ∨ j = 2 ∨ j = 3 ∨ j = 4 ∨ j = 5 ∨ j = 6 by omega) with rfl | rfl | rfl | rfl | rfl | rfl | rfl <;> rfl) (lel 13 38 rfl) (lel 3046 3520 rfl) dX9_init_63 (fun q_29 H hP hD hS => ?_)
  have hP : va_P (dC, dI) vwCl [(h0, .inr (7, [.ref q_1, .ref q_6, .ref q_17, .ref q_20, .null, .null, .null, .null, .null, .null])), (q_1, .inr (6, [.ref q_4, .int 0])), (q_4, .inl (cA_5, 1200, .inl (fun _ => 0))), (q_6, .inr (3, [.int 0, .int 0, .int 0, .int 0, .int 0, .ref q_9, .ref q_10, .ref q_11, .ref q_12])), (q_9, .inl (cA_13, 9, .inl (fun _ => 0))), (q_10, .inl (cA_14, 600, .inl (fun _ => 0))), (q_11, .inl (cA_15, 600, .inr (.inl (fun _ => 0)))), (q_12, .inl (cA_16, 600, .inr (.inl (fun _ => 0)))), (q_17, .inr (0, [.ref q_1, .ref q_6, .int 0, .int (-1), .int 0, .int 0, .int 0, .int 0, .int 0])), (q_20, .inr (1, [.int 0, .int 0, .int 0, .int 0, .int 0, .ref q_23, .ref q_24])), (q_23, .inl (cA_25, 0, .inr (.inl (fun _ => 0)))), (q_24, .inl (cA_26, 0, .inl (fun _ => 0))), (q_27, .inl (cA_28, 3, .inr (.inr (.inr (.inr (fun _ => none)))))), (q_29, .inr (1, [.int 0, .int 0, .int 0, .int 0, .int 0, .null, .null]))] H := hP
  have hD : va_D A [(h0, .inr (7, [.ref q_1, .ref q_6, .ref q_17, .ref q_20, .null, .null, .null, .null, .null, .null])), (q_1, .inr (6, [.ref q_4, .int 0])), (q_4, .inl (cA_5, 1200, .inl (fun _ => 0))), (q_6, .inr (3, [.int 0, .int 0, .int 0, .int 0, .int 0, .ref q_9, .ref q_10, .ref q_11, .ref q_12])), (q_9, .inl (cA_13, 9, .inl (fun _ => 0))), (q_10, .inl (cA_14, 600, .inl (fun _ => 0))), (q_11, .inl (cA_15, 600, .inr (.inl (fun _ => 0)))), (q_12, .inl (cA_16, 600, .inr (.inl (fun _ => 0)))), (q_17, .inr (0, [.ref q_1, .ref q_6, .int 0, .int (-1), .int 0, .int 0, .int 0, .int 0, .int 0])), (q_20, .inr (1, [.int 0, .int 0, .int 0, .int 0, .int 0, .ref q_23, .ref q_24])), (q_23, .inl (cA_25, 0, .inr (.inl (fun _ => 0)))), (q_24, .inl (cA_26, 0, .inl (fun _ => 0))), (q_27, .inl (cA_28, 3, .inr (.inr (.inr (.inr (fun _ => none)))))), (q_29, .inr (1, [.int 0, .int 0, .int 0, .int 0, .int 0, .null, .null]))] := hD
  refine W.widen (k := 13) (n := 3046) (lel _ _ rfl) (lel _ _ rfl) ?_
  refine lv_dup hx hb dX9_init_66 rfl ?_
  have hFc := va_free (wc := [(q_29, .inr (1, [.int 0, .int 0, .int 0, .int 0, .int 0, .null, .null]))]) hD hS hA [13] rfl
  refine va_callv (va_runIN (As := []) (rest := [.ref q_29, .int 0, .ref q_27, .ref q_27, .ref h0]) ⟨hx, hb, hml, hown, hts⟩ (kX2_init l dC dI q_29 (H.size)) ⟨va_cnB (host := RX9) 0 hts gX9_init__X2_init_I rfl rfl rfl (hN _ (List.mem_of_getElem? (i := 25) rfl)) (hts (.initialized RX2) (List.mem_of_getElem? (i := 39) rfl)) (by decide +kernel) ⟨lel 2 2 rfl, lel 32 34 rfl⟩, rfl, (hts (.instanceMethod yX2_init) (List.mem_of_getElem? (i := 44) rfl))⟩ ⟨hw_fb, (hw_use hP hD hK hN [13] rfl (by decide) rfl [] rfl)⟩ rfl rfl hl.1 rfl (lv_room (Nat.le_of_ble_eq_true rfl)) dX9_init_67 ⟨lel 15 38 rfl, lel 3046 3520 rfl⟩) hS (fun q _ h => hFc q h) hFc (fun u_31 t H1 locs ht hvm hwr_30 hB hz1 hk1 hS => ?_)
  obtain ⟨q_32, q_33, cA_34, cA_35, hP1, hK1, hD1⟩ := hB
  rw [ht] at hP1
  have hK1 := va_K.moved hvm.symm hK1
  obtain ⟨hP, hD⟩ := va_join (wr := [(h0, .inr (7, [.ref q_1, .ref q_6, .ref q_17, .ref q_20, .null, .null, .null, .null, .null, .null])), (q_1, .inr (6, [.ref q_4, .int 0])), (q_4, .inl (cA_5, 1200, .inl (fun _ => 0))), (q_6, .inr (3, [.int 0, .int 0, .int 0, .int 0, .int 0, .ref q_9, .ref q_10, .ref q_11, .ref q_12])), (q_9, .inl (cA_13, 9, .inl (fun _ => 0))), (q_10, .inl (cA_14, 600, .inl (fun _ => 0))), (q_11, .inl (cA_15, 600, .inr (.inl (fun _ => 0)))), (q_12, .inl (cA_16, 600, .inr (.inl (fun _ => 0)))), (q_17, .inr (0, [.ref q_1, .ref q_6, .int 0, .int (-1), .int 0, .int 0, .int 0, .int 0, .int 0])), (q_20, .inr (1, [.int 0, .int 0, .int 0, .int 0, .int 0, .ref q_23, .ref q_24])), (q_23, .inl (cA_25, 0, .inr (.inl (fun _ => 0)))), (q_24, .inl (cA_26, 0, .inl (fun _ => 0))), (q_27, .inl (cA_28, 3, .inr (.inr (.inr (.inr (fun _ => none))))))]) (w1 := [(q_29, .inr (1, [.int 0, .int 0, .int 0, .int 0, .int 0, .ref q_32, .ref q_33])), (q_32, .inl (cA_34, 0, .inr (.inl (fun _ => 0)))), (q_33, .inl (cA_35, 0, .inl (fun _ => 0)))]) hP hD [13] [0, 1, 2, 3, 4, 5, 6, 7, 8, 9, 10, 11, 12] rfl rfl (by decide) (by decide) hk1 hFc hP1 hD1
  have hK := (hK.sub (tys' := [(cA_5, .byte), (cA_13, .int), (cA_14, .int), (cA_15, .long), (cA_16, .long), (cA_25, .long), (cA_26, .int), (cA_28, .object RX2)]) [0, 1, 2, 3, 4, 5, 6, 7] rfl).app hK1
  generalize H1 = H at hP hS ⊢
  have hP : va_P (dC, dI) vwCl [(h0, .inr (7, [.ref q_1, .ref q_6, .ref q_17, .ref q_20, .null, .null, .null, .null, .null, .null])), (q_1, .inr (6, [.ref q_4, .int 0])), (q_4, .inl (cA_5, 1200, .inl (fun _ => 0))), (q_6, .inr (3, [.int 0, .int 0, .int 0, .int 0, .int 0, .ref q_9, .ref q_10, .ref q_11, .ref q_12])), (q_9, .inl (cA_13, 9, .inl (fun _ => 0))), (q_10, .inl (cA_14, 600, .inl (fun _ => 0))), (q_11, .inl (cA_15, 600, .inr (.inl (fun _ => 0)))), (q_12, .inl (cA_16, 600, .inr (.inl (fun _ => 0)))), (q_17, .inr (0, [.ref q_1, .ref q_6, .int 0, .int (-1), .int 0, .int 0, .int 0, .int 0, .int 0])), (q_20, .inr (1, [.int 0, .int 0, .int 0, .int 0, .int 0, .ref q_23, .ref q_24])), (q_23, .inl (cA_25, 0, .inr (.inl (fun _ => 0)))), (q_24, .inl (cA_26, 0, .inl (fun _ => 0))), (q_27, .inl (cA_28, 3, .inr (.inr (.inr (.inr (fun _ => none)))))), (q_29, .inr (1, [.int 0, .int 0, .int 0, .int 0, .int 0, .ref q_32, .ref q_33])), (q_32, .inl (cA_34, 0, .inr (.inl (fun _ => 0)))), (q_33, .inl (cA_35, 0, .inl (fun _ => 0)))] H := hP
  have hD : va_D A [(h0, .inr (7, [.ref q_1, .ref q_6, .ref q_17, .ref q_20, .null, .null, .null, .null, .null, .null])), (q_1, .inr (6, [.ref q_4, .int 0])), (q_4, .inl (cA_5, 1200, .inl (fun _ => 0))), (q_6, .inr (3, [.int 0, .int 0, .int 0, .int 0, .int 0, .ref q_9, .ref q_10, .ref q_11, .ref q_12])), (q_9, .inl (cA_13, 9, .inl (fun _ => 0))), (q_10, .inl (cA_14, 600, .inl (fun _ => 0))), (q_11, .inl (cA_15, 600, .inr (.inl (fun _ => 0)))), (q_12, .inl (cA_16, 600, .inr (.inl (fun _ => 0)))), (q_17, .inr (0, [.ref q_1, .ref q_6, .int 0, .int (-1), .int 0, .int 0, .int 0, .int 0, .int 0])), (q_20, .inr (1, [.int 0, .int 0, .int 0, .int 0, .int 0, .ref q_23, .ref q_24])), (q_23, .inl (cA_25, 0, .inr (.inl (fun _ => 0)))), (q_24, .inl (cA_26, 0, .inl (fun _ => 0))), (q_27, .inl (cA_28, 3, .inr (.inr (.inr (.inr (fun _ => none)))))), (q_29, .inr (1, [.int 0, .int 0, .int 0, .int 0, .int 0, .ref q_32, .ref q_33])), (q_32, .inl (cA_34, 0, .inr (.inl (fun _ => 0)))), (q_33, .inl (cA_35, 0, .inl (fun _ => 0)))] := hD
  have hK : va_K (dC, dI) vwCl [(cA_5, .byte), (cA_13, .int), (cA_14, .int), (cA_15, .long), (cA_16, .long), (cA_25, .long), (cA_26, .int), (cA_28, .object RX2), (cA_34, .long), (cA_35, .int)] s := hK
  refine W.widen (k := 15) (n := 3046) (lel _ _ rfl) (lel _ _ rfl) ?_
  refine va_astq hx hb hK hP hD hS 12 7 13 1 rfl rfl rfl rfl (vp_in_lit (by decide)) dX9_init_70 (fun H locs hP hD hS => ?_)
  have hP : va_P (dC, dI) vwCl [(h0, .inr (7, [.ref q_1, .ref q_6, .ref q_17, .ref q_20, .null, .null, .null, .null, .null, .null])), (q_1, .inr (6, [.ref q_4, .int 0])), (q_4, .inl (cA_5, 1200, .inl (fun _ => 0))), (q_6, .inr (3, [.int 0, .int 0, .int 0, .int 0, .int 0, .ref q_9, .ref q_10, .ref q_11, .ref q_12])), (q_9, .inl (cA_13, 9, .inl (fun _ => 0))), (q_10, .inl (cA_14, 600, .inl (fun _ => 0))), (q_11, .inl (cA_15, 600, .inr (.inl (fun _ => 0)))), (q_12, .inl (cA_16, 600, .inr (.inl (fun _ => 0)))), (q_17, .inr (0, [.ref q_1, .ref q_6, .int 0, .int (-1), .int 0, .int 0, .int 0, .int 0, .int 0])), (q_20, .inr (1, [.int 0, .int 0, .int 0, .int 0, .int 0, .ref q_23, .ref q_24])), (q_23, .inl (cA_25, 0, .inr (.inl (fun _ => 0)))), (q_24, .inl (cA_26, 0, .inl (fun _ => 0))), (q_27, .inl (cA_28, 3, .inr (.inr (.inr (.inr (va_up (fun _ => none) (0 : Int32).toNatClampNeg (some q_29))))))), (q_29, .inr (1, [.int 0, .int 0, .int 0, .int 0, .int 0, .ref q_32, .ref q_33])), (q_32, .inl (cA_34, 0, .inr (.inl (fun _ => 0)))), (q_33, .inl (cA_35, 0, .inl (fun _ => 0)))] H := hP
  have hD : va_D A [(h0, .inr (7, [.ref q_1, .ref q_6, .ref q_17, .ref q_20, .null, .null, .null, .null, .null, .null])), (q_1, .inr (6, [.ref q_4, .int 0])), (q_4, .inl (cA_5, 1200, .inl (fun _ => 0))), (q_6, .inr (3, [.int 0, .int 0, .int 0, .int 0, .int 0, .ref q_9, .ref q_10, .ref q_11, .ref q_12])), (q_9, .inl (cA_13, 9, .inl (fun _ => 0))), (q_10, .inl (cA_14, 600, .inl (fun _ => 0))), (q_11, .inl (cA_15, 600, .inr (.inl (fun _ => 0)))), (q_12, .inl (cA_16, 600, .inr (.inl (fun _ => 0)))), (q_17, .inr (0, [.ref q_1, .ref q_6, .int 0, .int (-1), .int 0, .int 0, .int 0, .int 0, .int 0])), (q_20, .inr (1, [.int 0, .int 0, .int 0, .int 0, .int 0, .ref q_23, .ref q_24])), (q_23, .inl (cA_25, 0, .inr (.inl (fun _ => 0)))), (q_24, .inl (cA_26, 0, .inl (fun _ => 0))), (q_27, .inl (cA_28, 3, .inr (.inr (.inr (.inr (va_up (fun _ => none) (0 : Int32).toNatClampNeg (some q_29))))))), (q_29, .inr (1, [.int 0, .int 0, .int 0, .int 0, .int 0, .ref q_32, .ref q_33])), (q_32, .inl (cA_34, 0, .inr (.inl (fun _ => 0)))), (q_33, .inl (cA_35, 0, .inl (fun _ => 0)))] := hD
  refine lv_dup hx hb dX9_init_71 rfl ?_
  refine lv_iconst (v := 1) hx hb dX9_init_72 (by decide) ?_
  refine va_new (ci := 1) (fs := [.int 0, .int 0, .int 0, .int 0, .int 0, .null, .null]) (C := RX2) (T := TX2) (N := 7) hx hb hts iX9_init_X2 tyX2 tyX2_ok hown (hts (.classLink RX9 32 RX2) (List.mem_of_getElem? (i := 37) rfl)) (hts (.instantiable RX2 7) (List.mem_of_getElem? (i := 38) rfl)) (hts (.initialized RX2) (List.mem_of_getElem? (i := 39) rfl)) hK hP hD hS hA rfl (fun j hj => by rcases (show j = 0 ∨ j = 1 ∨ j = 2 ∨ j = 3 ∨ j = 4 ∨ j = 5 ∨ j = 6 by omega) with rfl | rfl | rfl | rfl | rfl | rfl | rfl <;> rfl) (lel 16 38 rfl) (lel 3053 3520 rfl) dX9_init_73 (fun q_36 H hP hD hS => ?_)
  have hP : va_P (dC, dI) vwCl [(h0, .inr (7, [.ref q_1, .ref q_6, .ref q_17, .ref q_20, .null, .null, .null, .null, .null, .null])), (q_1, .inr (6, [.ref q_4, .int 0])), (q_4, .inl (cA_5, 1200, .inl (fun _ => 0))), (q_6, .inr (3, [.int 0, .int 0, .int 0, .int 0, .int 0, .ref q_9, .ref q_10, .ref q_11, .ref q_12])), (q_9, .inl (cA_13, 9, .inl (fun _ => 0))), (q_10, .inl (cA_14, 600, .inl (fun _ => 0))), (q_11, .inl (cA_15, 600, .inr (.inl (fun _ => 0)))), (q_12, .inl (cA_16, 600, .inr (.inl (fun _ => 0)))), (q_17, .inr (0, [.ref q_1, .ref q_6, .int 0, .int (-1), .int 0, .int 0, .int 0, .int 0, .int 0])), (q_20, .inr (1, [.int 0, .int 0, .int 0, .int 0, .int 0, .ref q_23, .ref q_24])), (q_23, .inl (cA_25, 0, .inr (.inl (fun _ => 0)))), (q_24, .inl (cA_26, 0, .inl (fun _ => 0))), (q_27, .inl (cA_28, 3, .inr (.inr (.inr (.inr (va_up (fun _ => none) (0 : Int32).toNatClampNeg (some q_29))))))), (q_29, .inr (1, [.int 0, .int 0, .int 0, .int 0, .int 0, .ref q_32, .ref q_33])), (q_32, .inl (cA_34, 0, .inr (.inl (fun _ => 0)))), (q_33, .inl (cA_35, 0, .inl (fun _ => 0))), (q_36, .inr (1, [.int 0, .int 0, .int 0, .int 0, .int 0, .null, .null]))] H := hP
  have hD : va_D A [(h0, .inr (7, [.ref q_1, .ref q_6, .ref q_17, .ref q_20, .null, .null, .null, .null, .null, .null])), (q_1, .inr (6, [.ref q_4, .int 0])), (q_4, .inl (cA_5, 1200, .inl (fun _ => 0))), (q_6, .inr (3, [.int 0, .int 0, .int 0, .int 0, .int 0, .ref q_9, .ref q_10, .ref q_11, .ref q_12])), (q_9, .inl (cA_13, 9, .inl (fun _ => 0))), (q_10, .inl (cA_14, 600, .inl (fun _ => 0))), (q_11, .inl (cA_15, 600, .inr (.inl (fun _ => 0)))), (q_12, .inl (cA_16, 600, .inr (.inl (fun _ => 0)))), (q_17, .inr (0, [.ref q_1, .ref q_6, .int 0, .int (-1), .int 0, .int 0, .int 0, .int 0, .int 0])), (q_20, .inr (1, [.int 0, .int 0, .int 0, .int 0, .int 0, .ref q_23, .ref q_24])), (q_23, .inl (cA_25, 0, .inr (.inl (fun _ => 0)))), (q_24, .inl (cA_26, 0, .inl (fun _ => 0))), (q_27, .inl (cA_28, 3, .inr (.inr (.inr (.inr (va_up (fun _ => none) (0 : Int32).toNatClampNeg (some q_29))))))), (q_29, .inr (1, [.int 0, .int 0, .int 0, .int 0, .int 0, .ref q_32, .ref q_33])), (q_32, .inl (cA_34, 0, .inr (.inl (fun _ => 0)))), (q_33, .inl (cA_35, 0, .inl (fun _ => 0))), (q_36, .inr (1, [.int 0, .int 0, .int 0, .int 0, .int 0, .null, .null]))] := hD
  refine W.widen (k := 16) (n := 3053) (lel _ _ rfl) (lel _ _ rfl) ?_
  refine lv_dup hx hb dX9_init_76 rfl ?_
  have hFc := va_free (wc := [(q_36, .inr (1, [.int 0, .int 0, .int 0, .int 0, .int 0, .null, .null]))]) hD hS hA [16] rfl
  refine va_callv (va_runIN (As := []) (rest := [.ref q_36, .int 1, .ref q_27, .ref q_27, .ref h0]) ⟨hx, hb, hml, hown, hts⟩ (kX2_init l dC dI q_36 (H.size)) ⟨va_cnB (host := RX9) 0 hts gX9_init__X2_init_I rfl rfl rfl (hN _ (List.mem_of_getElem? (i := 25) rfl)) (hts (.initialized RX2) (List.mem_of_getElem? (i := 39) rfl)) (by decide +kernel) ⟨lel 2 2 rfl, lel 32 34 rfl⟩, rfl, (hts (.instanceMethod yX2_init) (List.mem_of_getElem? (i := 44) rfl))⟩ ⟨hw_fb, (hw_use hP hD hK hN [16] rfl (by decide) rfl [] rfl)⟩ rfl rfl hl.1 rfl (lv_room (Nat.le_of_ble_eq_true rfl)) dX9_init_77 ⟨lel 18 38 rfl, lel 3053 3520 rfl⟩) hS (fun q _ h => hFc q h) hFc (fun u_38 t H1 locs ht hvm hwr_37 hB hz1 hk1 hS => ?_)
  obtain ⟨q_39, q_40, cA_41, cA_42, hP1, hK1, hD1⟩ := hB
  rw [ht] at hP1
  have hK1 := va_K.moved hvm.symm hK1
  obtain ⟨hP, hD⟩ := va_join (wr := [(h0, .inr (7, [.ref q_1, .ref q_6, .ref q_17, .ref q_20, .null, .null, .null, .null, .null, .null])), (q_1, .inr (6, [.ref q_4, .int 0])), (q_4, .inl (cA_5, 1200, .inl (fun _ => 0))), (q_6, .inr (3, [.int 0, .int 0, .int 0, .int 0, .int 0, .ref q_9, .ref q_10, .ref q_11, .ref q_12])), (q_9, .inl (cA_13, 9, .inl (fun _ => 0))), (q_10, .inl (cA_14, 600, .inl (fun _ => 0))), (q_11, .inl (cA_15, 600, .inr (.inl (fun _ => 0)))), (q_12, .inl (cA_16, 600, .inr (.inl (fun _ => 0)))), (q_17, .inr (0, [.ref q_1, .ref q_6, .int 0, .int (-1), .int 0, .int 0, .int 0, .int 0, .int 0])), (q_20, .inr (1, [.int 0, .int 0, .int 0, .int 0, .int 0, .ref q_23, .ref q_24])), (q_23, .inl (cA_25, 0, .inr (.inl (fun _ => 0)))), (q_24, .inl (cA_26, 0, .inl (fun _ => 0))), (q_27, .inl (cA_28, 3, .inr (.inr (.inr (.inr (va_up (fun _ => none) (0 : Int32).toNatClampNeg (some q_29))))))), (q_29, .inr (1, [.int 0, .int 0, .int 0, .int 0, .int 0, .ref q_32, .ref q_33])), (q_32, .inl (cA_34, 0, .inr (.inl (fun _ => 0)))), (q_33, .inl (cA_35, 0, .inl (fun _ => 0)))]) (w1 := [(q_36, .inr (1, [.int 0, .int 0, .int 0, .int 0, .int 0, .ref q_39, .ref q_40])), (q_39, .inl (cA_41, 0, .inr (.inl (fun _ => 0)))), (q_40, .inl (cA_42, 0, .inl (fun _ => 0)))]) hP hD [16] [0, 1, 2, 3, 4, 5, 6, 7, 8, 9, 10, 11, 12, 13, 14, 15] rfl rfl (by decide) (by decide) hk1 hFc hP1 hD1
  have hK := (hK.sub (tys' := [(cA_5, .byte), (cA_13, .int), (cA_14, .int), (cA_15, .long), (cA_16, .long), (cA_25, .long), (cA_26, .int), (cA_28, .object RX2), (cA_34, .long), (cA_35, .int)]) [0, 1, 2, 3, 4, 5, 6, 7, 8, 9] rfl).app hK1
  generalize H1 = H at hP hS ⊢
  have hP : va_P (dC, dI) vwCl [(h0, .inr (7, [.ref q_1, .ref q_6, .ref q_17, .ref q_20, .null, .null, .null, .null, .null, .null])), (q_1, .inr (6, [.ref q_4, .int 0])), (q_4, .inl (cA_5, 1200, .inl (fun _ => 0))), (q_6, .inr (3, [.int 0, .int 0, .int 0, .int 0, .int 0, .ref q_9, .ref q_10, .ref q_11, .ref q_12])), (q_9, .inl (cA_13, 9, .inl (fun _ => 0))), (q_10, .inl (cA_14, 600, .inl (fun _ => 0))), (q_11, .inl (cA_15, 600, .inr (.inl (fun _ => 0)))), (q_12, .inl (cA_16, 600, .inr (.inl (fun _ => 0)))), (q_17, .inr (0, [.ref q_1, .ref q_6, .int 0, .int (-1), .int 0, .int 0, .int 0, .int 0, .int 0])), (q_20, .inr (1, [.int 0, .int 0, .int 0, .int 0, .int 0, .ref q_23, .ref q_24])), (q_23, .inl (cA_25, 0, .inr (.inl (fun _ => 0)))), (q_24, .inl (cA_26, 0, .inl (fun _ => 0))), (q_27, .inl (cA_28, 3, .inr (.inr (.inr (.inr (va_up (fun _ => none) (0 : Int32).toNatClampNeg (some q_29))))))), (q_29, .inr (1, [.int 0, .int 0, .int 0, .int 0, .int 0, .ref q_32, .ref q_33])), (q_32, .inl (cA_34, 0, .inr (.inl (fun _ => 0)))), (q_33, .inl (cA_35, 0, .inl (fun _ => 0))), (q_36, .inr (1, [.int 0, .int 0, .int 0, .int 0, .int 0, .ref q_39, .ref q_40])), (q_39, .inl (cA_41, 0, .inr (.inl (fun _ => 0)))), (q_40, .inl (cA_42, 0, .inl (fun _ => 0)))] H := hP
  have hD : va_D A [(h0, .inr (7, [.ref q_1, .ref q_6, .ref q_17, .ref q_20, .null, .null, .null, .null, .null, .null])), (q_1, .inr (6, [.ref q_4, .int 0])), (q_4, .inl (cA_5, 1200, .inl (fun _ => 0))), (q_6, .inr (3, [.int 0, .int 0, .int 0, .int 0, .int 0, .ref q_9, .ref q_10, .ref q_11, .ref q_12])), (q_9, .inl (cA_13, 9, .inl (fun _ => 0))), (q_10, .inl (cA_14, 600, .inl (fun _ => 0))), (q_11, .inl (cA_15, 600, .inr (.inl (fun _ => 0)))), (q_12, .inl (cA_16, 600, .inr (.inl (fun _ => 0)))), (q_17, .inr (0, [.ref q_1, .ref q_6, .int 0, .int (-1), .int 0, .int 0, .int 0, .int 0, .int 0])), (q_20, .inr (1, [.int 0, .int 0, .int 0, .int 0, .int 0, .ref q_23, .ref q_24])), (q_23, .inl (cA_25, 0, .inr (.inl (fun _ => 0)))), (q_24, .inl (cA_26, 0, .inl (fun _ => 0))), (q_27, .inl (cA_28, 3, .inr (.inr (.inr (.inr (va_up (fun _ => none) (0 : Int32).toNatClampNeg (some q_29))))))), (q_29, .inr (1, [.int 0, .int 0, .int 0, .int 0, .int 0, .ref q_32, .ref q_33])), (q_32, .inl (cA_34, 0, .inr (.inl (fun _ => 0)))), (q_33, .inl (cA_35, 0, .inl (fun _ => 0))), (q_36, .inr (1, [.int 0, .int 0, .int 0, .int 0, .int 0, .ref q_39, .ref q_40])), (q_39, .inl (cA_41, 0, .inr (.inl (fun _ => 0)))), (q_40, .inl (cA_42, 0, .inl (fun _ => 0)))] := hD
  have hK : va_K (dC, dI) vwCl [(cA_5, .byte), (cA_13, .int), (cA_14, .int), (cA_15, .long), (cA_16, .long), (cA_25, .long), (cA_26, .int), (cA_28, .object RX2), (cA_34, .long), (cA_35, .int), (cA_41, .long), (cA_42, .int)] s := hK
  refine W.widen (k := 18) (n := 3053) (lel _ _ rfl) (lel _ _ rfl) ?_
  refine va_astq hx hb hK hP hD hS 12 7 16 1 rfl rfl rfl rfl (vp_in_lit (by decide)) dX9_init_80 (fun H locs hP hD hS => ?_)
  have hP : va_P (dC, dI) vwCl [(h0, .inr (7, [.ref q_1, .ref q_6, .ref q_17, .ref q_20, .null, .null, .null, .null, .null, .null])), (q_1, .inr (6, [.ref q_4, .int 0])), (q_4, .inl (cA_5, 1200, .inl (fun _ => 0))), (q_6, .inr (3, [.int 0, .int 0, .int 0, .int 0, .int 0, .ref q_9, .ref q_10, .ref q_11, .ref q_12])), (q_9, .inl (cA_13, 9, .inl (fun _ => 0))), (q_10, .inl (cA_14, 600, .inl (fun _ => 0))), (q_11, .inl (cA_15, 600, .inr (.inl (fun _ => 0)))), (q_12, .inl (cA_16, 600, .inr (.inl (fun _ => 0)))), (q_17, .inr (0, [.ref q_1, .ref q_6, .int 0, .int (-1), .int 0, .int 0, .int 0, .int 0, .int 0])), (q_20, .inr (1, [.int 0, .int 0, .int 0, .int 0, .int 0, .ref q_23, .ref q_24])), (q_23, .inl (cA_25, 0, .inr (.inl (fun _ => 0)))), (q_24, .inl (cA_26, 0, .inl (fun _ => 0))), (q_27, .inl (cA_28, 3, .inr (.inr (.inr (.inr (va_up (va_up (fun _ => none) (0 : Int32).toNatClampNeg (some q_29)) (1 : Int32).toNatClampNeg (some q_36))))))), (q_29, .inr (1, [.int 0, .int 0, .int 0, .int 0, .int 0, .ref q_32, .ref q_33])), (q_32, .inl (cA_34, 0, .inr (.inl (fun _ => 0)))), (q_33, .inl (cA_35, 0, .inl (fun _ => 0))), (q_36, .inr (1, [.int 0, .int 0, .int 0, .int 0, .int 0, .ref q_39, .ref q_40])), (q_39, .inl (cA_41, 0, .inr (.inl (fun _ => 0)))), (q_40, .inl (cA_42, 0, .inl (fun _ => 0)))] H := hP
  have hD : va_D A [(h0, .inr (7, [.ref q_1, .ref q_6, .ref q_17, .ref q_20, .null, .null, .null, .null, .null, .null])), (q_1, .inr (6, [.ref q_4, .int 0])), (q_4, .inl (cA_5, 1200, .inl (fun _ => 0))), (q_6, .inr (3, [.int 0, .int 0, .int 0, .int 0, .int 0, .ref q_9, .ref q_10, .ref q_11, .ref q_12])), (q_9, .inl (cA_13, 9, .inl (fun _ => 0))), (q_10, .inl (cA_14, 600, .inl (fun _ => 0))), (q_11, .inl (cA_15, 600, .inr (.inl (fun _ => 0)))), (q_12, .inl (cA_16, 600, .inr (.inl (fun _ => 0)))), (q_17, .inr (0, [.ref q_1, .ref q_6, .int 0, .int (-1), .int 0, .int 0, .int 0, .int 0, .int 0])), (q_20, .inr (1, [.int 0, .int 0, .int 0, .int 0, .int 0, .ref q_23, .ref q_24])), (q_23, .inl (cA_25, 0, .inr (.inl (fun _ => 0)))), (q_24, .inl (cA_26, 0, .inl (fun _ => 0))), (q_27, .inl (cA_28, 3, .inr (.inr (.inr (.inr (va_up (va_up (fun _ => none) (0 : Int32).toNatClampNeg (some q_29)) (1 : Int32).toNatClampNeg (some q_36))))))), (q_29, .inr (1, [.int 0, .int 0, .int 0, .int 0, .int 0, .ref q_32, .ref q_33])), (q_32, .inl (cA_34, 0, .inr (.inl (fun _ => 0)))), (q_33, .inl (cA_35, 0, .inl (fun _ => 0))), (q_36, .inr (1, [.int 0, .int 0, .int 0, .int 0, .int 0, .ref q_39, .ref q_40])), (q_39, .inl (cA_41, 0, .inr (.inl (fun _ => 0)))), (q_40, .inl (cA_42, 0, .inl (fun _ => 0)))] := hD
  refine lv_dup hx hb dX9_init_81 rfl ?_
  refine lv_iconst (v := 2) hx hb dX9_init_82 (by decide) ?_
  refine va_new (ci := 1) (fs := [.int 0, .int 0, .int 0, .int 0, .int 0, .null, .null]) (C := RX2) (T := TX2) (N := 7) hx hb hts iX9_init_X2 tyX2 tyX2_ok hown (hts (.classLink RX9 32 RX2) (List.mem_of_getElem? (i := 37) rfl)) (hts (.instantiable RX2 7) (List.mem_of_getElem? (i := 38) rfl)) (hts (.initialized RX2) (List.mem_of_getElem? (i := 39) rfl)) hK hP hD hS hA rfl (fun j hj => by rcases (show j = 0 ∨ j = 1 ∨ j = 2 ∨ j = 3 ∨ j = 4 ∨ j = 5 ∨ j = 6 by omega) with rfl | rfl | rfl | rfl | rfl | rfl | rfl <;> rfl) (lel 19 38 rfl) (lel 3060 3520 rfl) dX9_init_83 (fun q_43 H hP hD hS => ?_)
  have hP : va_P (dC, dI) vwCl [(h0, .inr (7, [.ref q_1, .ref q_6, .ref q_17, .ref q_20, .null, .null, .null, .null, .null, .null])), (q_1, .inr (6, [.ref q_4, .int 0])), (q_4, .inl (cA_5, 1200, .inl (fun _ => 0))), (q_6, .inr (3, [.int 0, .int 0, .int 0, .int 0, .int 0, .ref q_9, .ref q_10, .ref q_11, .ref q_12])), (q_9, .inl (cA_13, 9, .inl (fun _ => 0))), (q_10, .inl (cA_14, 600, .inl (fun _ => 0))), (q_11, .inl (cA_15, 600, .inr (.inl (fun _ => 0)))), (q_12, .inl (cA_16, 600, .inr (.inl (fun _ => 0)))), (q_17, .inr (0, [.ref q_1, .ref q_6, .int 0, .int (-1), .int 0, .int 0, .int 0, .int 0, .int 0])), (q_20, .inr (1, [.int 0, .int 0, .int 0, .int 0, .int 0, .ref q_23, .ref q_24])), (q_23, .inl (cA_25, 0, .inr (.inl (fun _ => 0)))), (q_24, .inl (cA_26, 0, .inl (fun _ => 0))), (q_27, .inl (cA_28, 3, .inr (.inr (.inr (.inr (va_up (va_up (fun _ => none) (0 : Int32).toNatClampNeg (some q_29)) (1 : Int32).toNatClampNeg (some q_36))))))), (q_29, .inr (1, [.int 0, .int 0, .int 0, .int 0, .int 0, .ref q_32, .ref q_33])), (q_32, .inl (cA_34, 0, .inr (.inl (fun _ => 0)))), (q_33, .inl (cA_35, 0, .inl (fun _ => 0))), (q_36, .inr (1, [.int 0, .int 0, .int 0, .int 0, .int 0, .ref q_39, .ref q_40])), (q_39, .inl (cA_41, 0, .inr (.inl (fun _ => 0)))), (q_40, .inl (cA_42, 0, .inl (fun _ => 0))), (q_43, .inr (1, [.int 0, .int 0, .int 0, .int 0, .int 0, .null, .null]))] H := hP
  have hD : va_D A [(h0, .inr (7, [.ref q_1, .ref q_6, .ref q_17, .ref q_20, .null, .null, .null, .null, .null, .null])), (q_1, .inr (6, [.ref q_4, .int 0])), (q_4, .inl (cA_5, 1200, .inl (fun _ => 0))), (q_6, .inr (3, [.int 0, .int 0, .int 0, .int 0, .int 0, .ref q_9, .ref q_10, .ref q_11, .ref q_12])), (q_9, .inl (cA_13, 9, .inl (fun _ => 0))), (q_10, .inl (cA_14, 600, .inl (fun _ => 0))), (q_11, .inl (cA_15, 600, .inr (.inl (fun _ => 0)))), (q_12, .inl (cA_16, 600, .inr (.inl (fun _ => 0)))), (q_17, .inr (0, [.ref q_1, .ref q_6, .int 0, .int (-1), .int 0, .int 0, .int 0, .int 0, .int 0])), (q_20, .inr (1, [.int 0, .int 0, .int 0, .int 0, .int 0, .ref q_23, .ref q_24])), (q_23, .inl (cA_25, 0, .inr (.inl (fun _ => 0)))), (q_24, .inl (cA_26, 0, .inl (fun _ => 0))), (q_27, .inl (cA_28, 3, .inr (.inr (.inr (.inr (va_up (va_up (fun _ => none) (0 : Int32).toNatClampNeg (some q_29)) (1 : Int32).toNatClampNeg (some q_36))))))), (q_29, .inr (1, [.int 0, .int 0, .int 0, .int 0, .int 0, .ref q_32, .ref q_33])), (q_32, .inl (cA_34, 0, .inr (.inl (fun _ => 0)))), (q_33, .inl (cA_35, 0, .inl (fun _ => 0))), (q_36, .inr (1, [.int 0, .int 0, .int 0, .int 0, .int 0, .ref q_39, .ref q_40])), (q_39, .inl (cA_41, 0, .inr (.inl (fun _ => 0)))), (q_40, .inl (cA_42, 0, .inl (fun _ => 0))), (q_43, .inr (1, [.int 0, .int 0, .int 0, .int 0, .int 0, .null, .null]))] := hD
  refine W.widen (k := 19) (n := 3060) (lel _ _ rfl) (lel _ _ rfl) ?_
  refine lv_dup hx hb dX9_init_86 rfl ?_
  have hFc := va_free (wc := [(q_43, .inr (1, [.int 0, .int 0, .int 0, .int 0, .int 0, .null, .null]))]) hD hS hA [19] rfl
  refine va_callv (va_runIN (As := []) (rest := [.ref q_43, .int 2, .ref q_27, .ref q_27, .ref h0]) ⟨hx, hb, hml, hown, hts⟩ (kX2_init l dC dI q_43 (H.size)) ⟨va_cnB (host := RX9) 0 hts gX9_init__X2_init_I rfl rfl rfl (hN _ (List.mem_of_getElem? (i := 25) rfl)) (hts (.initialized RX2) (List.mem_of_getElem? (i := 39) rfl)) (by decide +kernel) ⟨lel 2 2 rfl, lel 32 34 rfl⟩, rfl, (hts (.instanceMethod yX2_init) (List.mem_of_getElem? (i := 44) rfl))⟩ ⟨hw_fb, (hw_use hP hD hK hN [19] rfl (by decide) rfl [] rfl)⟩ rfl rfl hl.1 rfl (lv_room (Nat.le_of_ble_eq_true rfl)) dX9_init_87 ⟨lel 21 38 rfl, lel 3060 3520 rfl⟩) hS (fun q _ h => hFc q h) hFc (fun u_45 t H1 locs ht hvm hwr_44 hB hz1 hk1 hS => ?_)
  obtain ⟨q_46, q_47, cA_48, cA_49, hP1, hK1, hD1⟩ := hB
  rw [ht] at hP1
  have hK1 := va_K.moved hvm.symm hK1
  obtain ⟨hP, hD⟩ := va_join (wr := [(h0, .inr (7, [.ref q_1, .ref q_6, .ref q_17, .ref q_20, .null, .null, .null, .null, .null, .null])), (q_1, .inr (6, [.ref q_4, .int 0])), (q_4, .inl (cA_5, 1200, .inl (fun _ => 0))), (q_6, .inr (3, [.int 0, .int 0, .int 0, .int 0, .int 0, .ref q_9, .ref q_10, .ref q_11, .ref q_12])), (q_9, .inl (cA_13, 9, .inl (fun _ => 0))), (q_10, .inl (cA_14, 600, .inl (fun _ => 0))), (q_11, .inl (cA_15, 600, .inr (.inl (fun _ => 0)))), (q_12, .inl (cA_16, 600, .inr (.inl (fun _ => 0)))), (q_17, .inr (0, [.ref q_1, .ref q_6, .int 0, .int (-1), .int 0, .int 0, .int 0, .int 0, .int 0])), (q_20, .inr (1, [.int 0, .int 0, .int 0, .int 0, .int 0, .ref q_23, .ref q_24])), (q_23, .inl (cA_25, 0, .inr (.inl (fun _ => 0)))), (q_24, .inl (cA_26, 0, .inl (fun _ => 0))), (q_27, .inl (cA_28, 3, .inr (.inr (.inr (.inr (va_up (va_up (fun _ => none) (0 : Int32).toNatClampNeg (some q_29)) (1 : Int32).toNatClampNeg (some q_36))))))), (q_29, .inr (1, [.int 0, .int 0, .int 0, .int 0, .int 0, .ref q_32, .ref q_33])), (q_32, .inl (cA_34, 0, .inr (.inl (fun _ => 0)))), (q_33, .inl (cA_35, 0, .inl (fun _ => 0))), (q_36, .inr (1, [.int 0, .int 0, .int 0, .int 0, .int 0, .ref q_39, .ref q_40])), (q_39, .inl (cA_41, 0, .inr (.inl (fun _ => 0)))), (q_40, .inl (cA_42, 0, .inl (fun _ => 0)))]) (w1 := [(q_43, .inr (1, [.int 0, .int 0, .int 0, .int 0, .int 0, .ref q_46, .ref q_47])), (q_46, .inl (cA_48, 0, .inr (.inl (fun _ => 0)))), (q_47, .inl (cA_49, 0, .inl (fun _ => 0)))]) hP hD [19] [0, 1, 2, 3, 4, 5, 6, 7, 8, 9, 10, 11, 12, 13, 14, 15, 16, 17, 18] rfl rfl (by decide) (by decide) hk1 hFc hP1 hD1
  have hK := (hK.sub (tys' := [(cA_5, .byte), (cA_13, .int), (cA_14, .int), (cA_15, .long), (cA_16, .long), (cA_25, .long), (cA_26, .int), (cA_28, .object RX2), (cA_34, .long), (cA_35, .int), (cA_41, .long), (cA_42, .int)]) [0, 1, 2, 3, 4, 5, 6, 7, 8, 9, 10, 11] rfl).app hK1
  generalize H1 = H at hP hS ⊢
  have hP : va_P (dC, dI) vwCl [(h0, .inr (7, [.ref q_1, .ref q_6, .ref q_17, .ref q_20, .null, .null, .null, .null, .null, .null])), (q_1, .inr (6, [.ref q_4, .int 0])), (q_4, .inl (cA_5, 1200, .inl (fun _ => 0))), (q_6, .inr (3, [.int 0, .int 0, .int 0, .int 0, .int 0, .ref q_9, .ref q_10, .ref q_11, .ref q_12])), (q_9, .inl (cA_13, 9, .inl (fun _ => 0))), (q_10, .inl (cA_14, 600, .inl (fun _ => 0))), (q_11, .inl (cA_15, 600, .inr (.inl (fun _ => 0)))), (q_12, .inl (cA_16, 600, .inr (.inl (fun _ => 0)))), (q_17, .inr (0, [.ref q_1, .ref q_6, .int 0, .int (-1), .int 0, .int 0, .int 0, .int 0, .int 0])), (q_20, .inr (1, [.int 0, .int 0, .int 0, .int 0, .int 0, .ref q_23, .ref q_24])), (q_23, .inl (cA_25, 0, .inr (.inl (fun _ => 0)))), (q_24, .inl (cA_26, 0, .inl (fun _ => 0))), (q_27, .inl (cA_28, 3, .inr (.inr (.inr (.inr (va_up (va_up (fun _ => none) (0 : Int32).toNatClampNeg (some q_29)) (1 : Int32).toNatClampNeg (some q_36))))))), (q_29, .inr (1, [.int 0, .int 0, .int 0, .int 0, .int 0, .ref q_32, .ref q_33])), (q_32, .inl (cA_34, 0, .inr (.inl (fun _ => 0)))), (q_33, .inl (cA_35, 0, .inl (fun _ => 0))), (q_36, .inr (1, [.int 0, .int 0, .int 0, .int 0, .int 0, .ref q_39, .ref q_40])), (q_39, .inl (cA_41, 0, .inr (.inl (fun _ => 0)))), (q_40, .inl (cA_42, 0, .inl (fun _ => 0))), (q_43, .inr (1, [.int 0, .int 0, .int 0, .int 0, .int 0, .ref q_46, .ref q_47])), (q_46, .inl (cA_48, 0, .inr (.inl (fun _ => 0)))), (q_47, .inl (cA_49, 0, .inl (fun _ => 0)))] H := hP
  have hD : va_D A [(h0, .inr (7, [.ref q_1, .ref q_6, .ref q_17, .ref q_20, .null, .null, .null, .null, .null, .null])), (q_1, .inr (6, [.ref q_4, .int 0])), (q_4, .inl (cA_5, 1200, .inl (fun _ => 0))), (q_6, .inr (3, [.int 0, .int 0, .int 0, .int 0, .int 0, .ref q_9, .ref q_10, .ref q_11, .ref q_12])), (q_9, .inl (cA_13, 9, .inl (fun _ => 0))), (q_10, .inl (cA_14, 600, .inl (fun _ => 0))), (q_11, .inl (cA_15, 600, .inr (.inl (fun _ => 0)))), (q_12, .inl (cA_16, 600, .inr (.inl (fun _ => 0)))), (q_17, .inr (0, [.ref q_1, .ref q_6, .int 0, .int (-1), .int 0, .int 0, .int 0, .int 0, .int 0])), (q_20, .inr (1, [.int 0, .int 0, .int 0, .int 0, .int 0, .ref q_23, .ref q_24])), (q_23, .inl (cA_25, 0, .inr (.inl (fun _ => 0)))), (q_24, .inl (cA_26, 0, .inl (fun _ => 0))), (q_27, .inl (cA_28, 3, .inr (.inr (.inr (.inr (va_up (va_up (fun _ => none) (0 : Int32).toNatClampNeg (some q_29)) (1 : Int32).toNatClampNeg (some q_36))))))), (q_29, .inr (1, [.int 0, .int 0, .int 0, .int 0, .int 0, .ref q_32, .ref q_33])), (q_32, .inl (cA_34, 0, .inr (.inl (fun _ => 0)))), (q_33, .inl (cA_35, 0, .inl (fun _ => 0))), (q_36, .inr (1, [.int 0, .int 0, .int 0, .int 0, .int 0, .ref q_39, .ref q_40])), (q_39, .inl (cA_41, 0, .inr (.inl (fun _ => 0)))), (q_40, .inl (cA_42, 0, .inl (fun _ => 0))), (q_43, .inr (1, [.int 0, .int 0, .int 0, .int 0, .int 0, .ref q_46, .ref q_47])), (q_46, .inl (cA_48, 0, .inr (.inl (fun _ => 0)))), (q_47, .inl (cA_49, 0, .inl (fun _ => 0)))] := hD
  have hK : va_K (dC, dI) vwCl [(cA_5, .byte), (cA_13, .int), (cA_14, .int), (cA_15, .long), (cA_16, .long), (cA_25, .long), (cA_26, .int), (cA_28, .object RX2), (cA_34, .long), (cA_35, .int), (cA_41, .long), (cA_42, .int), (cA_48, .long), (cA_49, .int)] s := hK
  refine W.widen (k := 21) (n := 3060) (lel _ _ rfl) (lel _ _ rfl) ?_
  refine va_astq hx hb hK hP hD hS 12 7 19 1 rfl rfl rfl rfl (vp_in_lit (by decide)) dX9_init_90 (fun H locs hP hD hS => ?_)
  have hP : va_P (dC, dI) vwCl [(h0, .inr (7, [.ref q_1, .ref q_6, .ref q_17, .ref q_20, .null, .null, .null, .null, .null, .null])), (q_1, .inr (6, [.ref q_4, .int 0])), (q_4, .inl (cA_5, 1200, .inl (fun _ => 0))), (q_6, .inr (3, [.int 0, .int 0, .int 0, .int 0, .int 0, .ref q_9, .ref q_10, .ref q_11, .ref q_12])), (q_9, .inl (cA_13, 9, .inl (fun _ => 0))), (q_10, .inl (cA_14, 600, .inl (fun _ => 0))), (q_11, .inl (cA_15, 600, .inr (.inl (fun _ => 0)))), (q_12, .inl (cA_16, 600, .inr (.inl (fun _ => 0)))), (q_17, .inr (0, [.ref q_1, .ref q_6, .int 0, .int (-1), .int 0, .int 0, .int 0, .int 0, .int 0])), (q_20, .inr (1, [.int 0, .int 0, .int 0, .int 0, .int 0, .ref q_23, .ref q_24])), (q_23, .inl (cA_25, 0, .inr (.inl (fun _ => 0)))), (q_24, .inl (cA_26, 0, .inl (fun _ => 0))), (q_27, .inl (cA_28, 3, .inr (.inr (.inr (.inr (va_up (va_up (va_up (fun _ => none) (0 : Int32).toNatClampNeg (some q_29)) (1 : Int32).toNatClampNeg (some q_36)) (2 : Int32).toNatClampNeg (some q_43))))))), (q_29, .inr (1, [.int 0, .int 0, .int 0, .int 0, .int 0, .ref q_32, .ref q_33])), (q_32, .inl (cA_34, 0, .inr (.inl (fun _ => 0)))), (q_33, .inl (cA_35, 0, .inl (fun _ => 0))), (q_36, .inr (1, [.int 0, .int 0, .int 0, .int 0, .int 0, .ref q_39, .ref q_40])), (q_39, .inl (cA_41, 0, .inr (.inl (fun _ => 0)))), (q_40, .inl (cA_42, 0, .inl (fun _ => 0))), (q_43, .inr (1, [.int 0, .int 0, .int 0, .int 0, .int 0, .ref q_46, .ref q_47])), (q_46, .inl (cA_48, 0, .inr (.inl (fun _ => 0)))), (q_47, .inl (cA_49, 0, .inl (fun _ => 0)))] H := hP
  have hD : va_D A [(h0, .inr (7, [.ref q_1, .ref q_6, .ref q_17, .ref q_20, .null, .null, .null, .null, .null, .null])), (q_1, .inr (6, [.ref q_4, .int 0])), (q_4, .inl (cA_5, 1200, .inl (fun _ => 0))), (q_6, .inr (3, [.int 0, .int 0, .int 0, .int 0, .int 0, .ref q_9, .ref q_10, .ref q_11, .ref q_12])), (q_9, .inl (cA_13, 9, .inl (fun _ => 0))), (q_10, .inl (cA_14, 600, .inl (fun _ => 0))), (q_11, .inl (cA_15, 600, .inr (.inl (fun _ => 0)))), (q_12, .inl (cA_16, 600, .inr (.inl (fun _ => 0)))), (q_17, .inr (0, [.ref q_1, .ref q_6, .int 0, .int (-1), .int 0, .int 0, .int 0, .int 0, .int 0])), (q_20, .inr (1, [.int 0, .int 0, .int 0, .int 0, .int 0, .ref q_23, .ref q_24])), (q_23, .inl (cA_25, 0, .inr (.inl (fun _ => 0)))), (q_24, .inl (cA_26, 0, .inl (fun _ => 0))), (q_27, .inl (cA_28, 3, .inr (.inr (.inr (.inr (va_up (va_up (va_up (fun _ => none) (0 : Int32).toNatClampNeg (some q_29)) (1 : Int32).toNatClampNeg (some q_36)) (2 : Int32).toNatClampNeg (some q_43))))))), (q_29, .inr (1, [.int 0, .int 0, .int 0, .int 0, .int 0, .ref q_32, .ref q_33])), (q_32, .inl (cA_34, 0, .inr (.inl (fun _ => 0)))), (q_33, .inl (cA_35, 0, .inl (fun _ => 0))), (q_36, .inr (1, [.int 0, .int 0, .int 0, .int 0, .int 0, .ref q_39, .ref q_40])), (q_39, .inl (cA_41, 0, .inr (.inl (fun _ => 0)))), (q_40, .inl (cA_42, 0, .inl (fun _ => 0))), (q_43, .inr (1, [.int 0, .int 0, .int 0, .int 0, .int 0, .ref q_46, .ref q_47])), (q_46, .inl (cA_48, 0, .inr (.inl (fun _ => 0)))), (q_47, .inl (cA_49, 0, .inl (fun _ => 0)))] := hD
  refine va_putF (D := (dC, dI)) (ci := 7) (v := .ref q_27) (ty := .array (.object "LuckyTicket$Roll")) (C := RX9) (T := TX9) (N := 10) hx hb hts iX9_init_X9 tyX9 tyX9_ok nmX9 hown hK hP hD hS 0 rfl rfl 4 (by decide) (hts (.fieldLink RX9 39 "LuckyTicket" "images" "[LLuckyTicket$Roll;") (List.mem_of_getElem? (i := 46) rfl)) (fun _ h9 => h9) rfl hin rfl (by decide +kernel) rfl rfl (Nat.le_of_ble_eq_true rfl) dX9_init_91 (fun H locs hP hD hS => ?_)
  have hP : va_P (dC, dI) vwCl [(h0, .inr (7, [.ref q_1, .ref q_6, .ref q_17, .ref q_20, .ref q_27, .null, .null, .null, .null, .null])), (q_1, .inr (6, [.ref q_4, .int 0])), (q_4, .inl (cA_5, 1200, .inl (fun _ => 0))), (q_6, .inr (3, [.int 0, .int 0, .int 0, .int 0, .int 0, .ref q_9, .ref q_10, .ref q_11, .ref q_12])), (q_9, .inl (cA_13, 9, .inl (fun _ => 0))), (q_10, .inl (cA_14, 600, .inl (fun _ => 0))), (q_11, .inl (cA_15, 600, .inr (.inl (fun _ => 0)))), (q_12, .inl (cA_16, 600, .inr (.inl (fun _ => 0)))), (q_17, .inr (0, [.ref q_1, .ref q_6, .int 0, .int (-1), .int 0, .int 0, .int 0, .int 0, .int 0])), (q_20, .inr (1, [.int 0, .int 0, .int 0, .int 0, .int 0, .ref q_23, .ref q_24])), (q_23, .inl (cA_25, 0, .inr (.inl (fun _ => 0)))), (q_24, .inl (cA_26, 0, .inl (fun _ => 0))), (q_27, .inl (cA_28, 3, .inr (.inr (.inr (.inr (va_up (va_up (va_up (fun _ => none) (0 : Int32).toNatClampNeg (some q_29)) (1 : Int32).toNatClampNeg (some q_36)) (2 : Int32).toNatClampNeg (some q_43))))))), (q_29, .inr (1, [.int 0, .int 0, .int 0, .int 0, .int 0, .ref q_32, .ref q_33])), (q_32, .inl (cA_34, 0, .inr (.inl (fun _ => 0)))), (q_33, .inl (cA_35, 0, .inl (fun _ => 0))), (q_36, .inr (1, [.int 0, .int 0, .int 0, .int 0, .int 0, .ref q_39, .ref q_40])), (q_39, .inl (cA_41, 0, .inr (.inl (fun _ => 0)))), (q_40, .inl (cA_42, 0, .inl (fun _ => 0))), (q_43, .inr (1, [.int 0, .int 0, .int 0, .int 0, .int 0, .ref q_46, .ref q_47])), (q_46, .inl (cA_48, 0, .inr (.inl (fun _ => 0)))), (q_47, .inl (cA_49, 0, .inl (fun _ => 0)))] H := hP
  have hD : va_D A [(h0, .inr (7, [.ref q_1, .ref q_6, .ref q_17, .ref q_20, .ref q_27, .null, .null, .null, .null, .null])), (q_1, .inr (6, [.ref q_4, .int 0])), (q_4, .inl (cA_5, 1200, .inl (fun _ => 0))), (q_6, .inr (3, [.int 0, .int 0, .int 0, .int 0, .int 0, .ref q_9, .ref q_10, .ref q_11, .ref q_12])), (q_9, .inl (cA_13, 9, .inl (fun _ => 0))), (q_10, .inl (cA_14, 600, .inl (fun _ => 0))), (q_11, .inl (cA_15, 600, .inr (.inl (fun _ => 0)))), (q_12, .inl (cA_16, 600, .inr (.inl (fun _ => 0)))), (q_17, .inr (0, [.ref q_1, .ref q_6, .int 0, .int (-1), .int 0, .int 0, .int 0, .int 0, .int 0])), (q_20, .inr (1, [.int 0, .int 0, .int 0, .int 0, .int 0, .ref q_23, .ref q_24])), (q_23, .inl (cA_25, 0, .inr (.inl (fun _ => 0)))), (q_24, .inl (cA_26, 0, .inl (fun _ => 0))), (q_27, .inl (cA_28, 3, .inr (.inr (.inr (.inr (va_up (va_up (va_up (fun _ => none) (0 : Int32).toNatClampNeg (some q_29)) (1 : Int32).toNatClampNeg (some q_36)) (2 : Int32).toNatClampNeg (some q_43))))))), (q_29, .inr (1, [.int 0, .int 0, .int 0, .int 0, .int 0, .ref q_32, .ref q_33])), (q_32, .inl (cA_34, 0, .inr (.inl (fun _ => 0)))), (q_33, .inl (cA_35, 0, .inl (fun _ => 0))), (q_36, .inr (1, [.int 0, .int 0, .int 0, .int 0, .int 0, .ref q_39, .ref q_40])), (q_39, .inl (cA_41, 0, .inr (.inl (fun _ => 0)))), (q_40, .inl (cA_42, 0, .inl (fun _ => 0))), (q_43, .inr (1, [.int 0, .int 0, .int 0, .int 0, .int 0, .ref q_46, .ref q_47])), (q_46, .inl (cA_48, 0, .inr (.inl (fun _ => 0)))), (q_47, .inl (cA_49, 0, .inl (fun _ => 0)))] := hD
  refine lv_aload_n hx hb dX9_init_94 rfl (lv_at hl 0 rfl) ?_
  refine lv_aload_n hx hb dX9_init_95 rfl (lv_at hl 0 rfl) ?_
  refine va_get (D := (dC, dI)) (ci := 7) (v := .ref q_27) (C := RX9) (T := TX9) (N := 10) hx hb hts iX9_init_X9 hown hK hP 0 rfl rfl 4 (by decide) (hts (.fieldLink RX9 39 "LuckyTicket" "images" "[LLuckyTicket$Roll;") (List.mem_of_getElem? (i := 46) rfl)) (fun _ h9 => h9) rfl dX9_init_96 ?_
  refine va_alen (v := 3) hx hb hK hP 12 7 rfl rfl (by rfl) dX9_init_99 ?_
  refine va_newa (atype := .boolean) (ty := .boolean) (a0 := (3, .inl (fun _ => 0))) (N' := 3) hx hb (hts (.arrayClass .boolean) (List.mem_of_getElem? (i := 47) rfl)) rfl hK hP hD hS hA (fun cA => na_boolean cA 3) (by decide) (by decide) (by decide) (lel 22 38 rfl) (lel 3063 3520 rfl) dX9_init_100 (fun q_50 cA_51 H hK hP hD hS => ?_)
  have hP : va_P (dC, dI) vwCl [(h0, .inr (7, [.ref q_1, .ref q_6, .ref q_17, .ref q_20, .ref q_27, .null, .null, .null, .null, .null])), (q_1, .inr (6, [.ref q_4, .int 0])), (q_4, .inl (cA_5, 1200, .inl (fun _ => 0))), (q_6, .inr (3, [.int 0, .int 0, .int 0, .int 0, .int 0, .ref q_9, .ref q_10, .ref q_11, .ref q_12])), (q_9, .inl (cA_13, 9, .inl (fun _ => 0))), (q_10, .inl (cA_14, 600, .inl (fun _ => 0))), (q_11, .inl (cA_15, 600, .inr (.inl (fun _ => 0)))), (q_12, .inl (cA_16, 600, .inr (.inl (fun _ => 0)))), (q_17, .inr (0, [.ref q_1, .ref q_6, .int 0, .int (-1), .int 0, .int 0, .int 0, .int 0, .int 0])), (q_20, .inr (1, [.int 0, .int 0, .int 0, .int 0, .int 0, .ref q_23, .ref q_24])), (q_23, .inl (cA_25, 0, .inr (.inl (fun _ => 0)))), (q_24, .inl (cA_26, 0, .inl (fun _ => 0))), (q_27, .inl (cA_28, 3, .inr (.inr (.inr (.inr (va_up (va_up (va_up (fun _ => none) (0 : Int32).toNatClampNeg (some q_29)) (1 : Int32).toNatClampNeg (some q_36)) (2 : Int32).toNatClampNeg (some q_43))))))), (q_29, .inr (1, [.int 0, .int 0, .int 0, .int 0, .int 0, .ref q_32, .ref q_33])), (q_32, .inl (cA_34, 0, .inr (.inl (fun _ => 0)))), (q_33, .inl (cA_35, 0, .inl (fun _ => 0))), (q_36, .inr (1, [.int 0, .int 0, .int 0, .int 0, .int 0, .ref q_39, .ref q_40])), (q_39, .inl (cA_41, 0, .inr (.inl (fun _ => 0)))), (q_40, .inl (cA_42, 0, .inl (fun _ => 0))), (q_43, .inr (1, [.int 0, .int 0, .int 0, .int 0, .int 0, .ref q_46, .ref q_47])), (q_46, .inl (cA_48, 0, .inr (.inl (fun _ => 0)))), (q_47, .inl (cA_49, 0, .inl (fun _ => 0))), (q_50, .inl (cA_51, 3, .inl (fun _ => 0)))] H := hP
  have hD : va_D A [(h0, .inr (7, [.ref q_1, .ref q_6, .ref q_17, .ref q_20, .ref q_27, .null, .null, .null, .null, .null])), (q_1, .inr (6, [.ref q_4, .int 0])), (q_4, .inl (cA_5, 1200, .inl (fun _ => 0))), (q_6, .inr (3, [.int 0, .int 0, .int 0, .int 0, .int 0, .ref q_9, .ref q_10, .ref q_11, .ref q_12])), (q_9, .inl (cA_13, 9, .inl (fun _ => 0))), (q_10, .inl (cA_14, 600, .inl (fun _ => 0))), (q_11, .inl (cA_15, 600, .inr (.inl (fun _ => 0)))), (q_12, .inl (cA_16, 600, .inr (.inl (fun _ => 0)))), (q_17, .inr (0, [.ref q_1, .ref q_6, .int 0, .int (-1), .int 0, .int 0, .int 0, .int 0, .int 0])), (q_20, .inr (1, [.int 0, .int 0, .int 0, .int 0, .int 0, .ref q_23, .ref q_24])), (q_23, .inl (cA_25, 0, .inr (.inl (fun _ => 0)))), (q_24, .inl (cA_26, 0, .inl (fun _ => 0))), (q_27, .inl (cA_28, 3, .inr (.inr (.inr (.inr (va_up (va_up (va_up (fun _ => none) (0 : Int32).toNatClampNeg (some q_29)) (1 : Int32).toNatClampNeg (some q_36)) (2 : Int32).toNatClampNeg (some q_43))))))), (q_29, .inr (1, [.int 0, .int 0, .int 0, .int 0, .int 0, .ref q_32, .ref q_33])), (q_32, .inl (cA_34, 0, .inr (.inl (fun _ => 0)))), (q_33, .inl (cA_35, 0, .inl (fun _ => 0))), (q_36, .inr (1, [.int 0, .int 0, .int 0, .int 0, .int 0, .ref q_39, .ref q_40])), (q_39, .inl (cA_41, 0, .inr (.inl (fun _ => 0)))), (q_40, .inl (cA_42, 0, .inl (fun _ => 0))), (q_43, .inr (1, [.int 0, .int 0, .int 0, .int 0, .int 0, .ref q_46, .ref q_47])), (q_46, .inl (cA_48, 0, .inr (.inl (fun _ => 0)))), (q_47, .inl (cA_49, 0, .inl (fun _ => 0))), (q_50, .inl (cA_51, 3, .inl (fun _ => 0)))] := hD
  have hK : va_K (dC, dI) vwCl [(cA_5, .byte), (cA_13, .int), (cA_14, .int), (cA_15, .long), (cA_16, .long), (cA_25, .long), (cA_26, .int), (cA_28, .object RX2), (cA_34, .long), (cA_35, .int), (cA_41, .long), (cA_42, .int), (cA_48, .long), (cA_49, .int), (cA_51, .boolean)] s := hK
  refine W.widen (k := 22) (n := 3063) (lel _ _ rfl) (lel _ _ rfl) ?_
  refine va_putF (D := (dC, dI)) (ci := 7) (v := .ref q_50) (ty := .array .boolean) (C := RX9) (T := TX9) (N := 10) hx hb hts iX9_init_X9 tyX9 tyX9_ok nmX9 hown hK hP hD hS 0 rfl rfl 5 (by decide) (hts (.fieldLink RX9 43 "LuckyTicket" "imaged" "[Z") (List.mem_of_getElem? (i := 48) rfl)) (fun _ h9 => h9) rfl hin rfl (by decide +kernel) rfl rfl (Nat.le_of_ble_eq_true rfl) dX9_init_102 (fun H locs hP hD hS => ?_)
  have hP : va_P (dC, dI) vwCl [(h0, .inr (7, [.ref q_1, .ref q_6, .ref q_17, .ref q_20, .ref q_27, .ref q_50, .null, .null, .null, .null])), (q_1, .inr (6, [.ref q_4, .int 0])), (q_4, .inl (cA_5, 1200, .inl (fun _ => 0))), (q_6, .inr (3, [.int 0, .int 0, .int 0, .int 0, .int 0, .ref q_9, .ref q_10, .ref q_11, .ref q_12])), (q_9, .inl (cA_13, 9, .inl (fun _ => 0))), (q_10, .inl (cA_14, 600, .inl (fun _ => 0))), (q_11, .inl (cA_15, 600, .inr (.inl (fun _ => 0)))), (q_12, .inl (cA_16, 600, .inr (.inl (fun _ => 0)))), (q_17, .inr (0, [.ref q_1, .ref q_6, .int 0, .int (-1), .int 0, .int 0, .int 0, .int 0, .int 0])), (q_20, .inr (1, [.int 0, .int 0, .int 0, .int 0, .int 0, .ref q_23, .ref q_24])), (q_23, .inl (cA_25, 0, .inr (.inl (fun _ => 0)))), (q_24, .inl (cA_26, 0, .inl (fun _ => 0))), (q_27, .inl (cA_28, 3, .inr (.inr (.inr (.inr (va_up (va_up (va_up (fun _ => none) (0 : Int32).toNatClampNeg (some q_29)) (1 : Int32).toNatClampNeg (some q_36)) (2 : Int32).toNatClampNeg (some q_43))))))), (q_29, .inr (1, [.int 0, .int 0, .int 0, .int 0, .int 0, .ref q_32, .ref q_33])), (q_32, .inl (cA_34, 0, .inr (.inl (fun _ => 0)))), (q_33, .inl (cA_35, 0, .inl (fun _ => 0))), (q_36, .inr (1, [.int 0, .int 0, .int 0, .int 0, .int 0, .ref q_39, .ref q_40])), (q_39, .inl (cA_41, 0, .inr (.inl (fun _ => 0)))), (q_40, .inl (cA_42, 0, .inl (fun _ => 0))), (q_43, .inr (1, [.int 0, .int 0, .int 0, .int 0, .int 0, .ref q_46, .ref q_47])), (q_46, .inl (cA_48, 0, .inr (.inl (fun _ => 0)))), (q_47, .inl (cA_49, 0, .inl (fun _ => 0))), (q_50, .inl (cA_51, 3, .inl (fun _ => 0)))] H := hP
  have hD : va_D A [(h0, .inr (7, [.ref q_1, .ref q_6, .ref q_17, .ref q_20, .ref q_27, .ref q_50, .null, .null, .null, .null])), (q_1, .inr (6, [.ref q_4, .int 0])), (q_4, .inl (cA_5, 1200, .inl (fun _ => 0))), (q_6, .inr (3, [.int 0, .int 0, .int 0, .int 0, .int 0, .ref q_9, .ref q_10, .ref q_11, .ref q_12])), (q_9, .inl (cA_13, 9, .inl (fun _ => 0))), (q_10, .inl (cA_14, 600, .inl (fun _ => 0))), (q_11, .inl (cA_15, 600, .inr (.inl (fun _ => 0)))), (q_12, .inl (cA_16, 600, .inr (.inl (fun _ => 0)))), (q_17, .inr (0, [.ref q_1, .ref q_6, .int 0, .int (-1), .int 0, .int 0, .int 0, .int 0, .int 0])), (q_20, .inr (1, [.int 0, .int 0, .int 0, .int 0, .int 0, .ref q_23, .ref q_24])), (q_23, .inl (cA_25, 0, .inr (.inl (fun _ => 0)))), (q_24, .inl (cA_26, 0, .inl (fun _ => 0))), (q_27, .inl (cA_28, 3, .inr (.inr (.inr (.inr (va_up (va_up (va_up (fun _ => none) (0 : Int32).toNatClampNeg (some q_29)) (1 : Int32).toNatClampNeg (some q_36)) (2 : Int32).toNatClampNeg (some q_43))))))), (q_29, .inr (1, [.int 0, .int 0, .int 0, .int 0, .int 0, .ref q_32, .ref q_33])), (q_32, .inl (cA_34, 0, .inr (.inl (fun _ => 0)))), (q_33, .inl (cA_35, 0, .inl (fun _ => 0))), (q_36, .inr (1, [.int 0, .int 0, .int 0, .int 0, .int 0, .ref q_39, .ref q_40])), (q_39, .inl (cA_41, 0, .inr (.inl (fun _ => 0)))), (q_40, .inl (cA_42, 0, .inl (fun _ => 0))), (q_43, .inr (1, [.int 0, .int 0, .int 0, .int 0, .int 0, .ref q_46, .ref q_47])), (q_46, .inl (cA_48, 0, .inr (.inl (fun _ => 0)))), (q_47, .inl (cA_49, 0, .inl (fun _ => 0))), (q_50, .inl (cA_51, 3, .inl (fun _ => 0)))] := hD
  refine lv_aload_n hx hb dX9_init_105 rfl (lv_at hl 0 rfl) ?_
  refine lv_iconst (v := 4) hx hb dX9_init_106 (by decide) ?_
  refine va_newq (C := RX3) (N' := 4) hx hb hown (hts (.classLink RX9 47 RX3) (List.mem_of_getElem? (i := 49) rfl)) hAO_X3 hK hP hD hS hA (by decide) (by decide) (by decide) (lel 23 38 rfl) (lel 3067 3520 rfl) dX9_init_107 (fun q_52 cA_53 H hK hP hD hS => ?_)
  have hP : va_P (dC, dI) vwCl [(h0, .inr (7, [.ref q_1, .ref q_6, .ref q_17, .ref q_20, .ref q_27, .ref q_50, .null, .null, .null, .null])), (q_1, .inr (6, [.ref q_4, .int 0])), (q_4, .inl (cA_5, 1200, .inl (fun _ => 0))), (q_6, .inr (3, [.int 0, .int 0, .int 0, .int 0, .int 0, .ref q_9, .ref q_10, .ref q_11, .ref q_12])), (q_9, .inl (cA_13, 9, .inl (fun _ => 0))), (q_10, .inl (cA_14, 600, .inl (fun _ => 0))), (q_11, .inl (cA_15, 600, .inr (.inl (fun _ => 0)))), (q_12, .inl (cA_16, 600, .inr (.inl (fun _ => 0)))), (q_17, .inr (0, [.ref q_1, .ref q_6, .int 0, .int (-1), .int 0, .int 0, .int 0, .int 0, .int 0])), (q_20, .inr (1, [.int 0, .int 0, .int 0, .int 0, .int 0, .ref q_23, .ref q_24])), (q_23, .inl (cA_25, 0, .inr (.inl (fun _ => 0)))), (q_24, .inl (cA_26, 0, .inl (fun _ => 0))), (q_27, .inl (cA_28, 3, .inr (.inr (.inr (.inr (va_up (va_up (va_up (fun _ => none) (0 : Int32).toNatClampNeg (some q_29)) (1 : Int32).toNatClampNeg (some q_36)) (2 : Int32).toNatClampNeg (some q_43))))))), (q_29, .inr (1, [.int 0, .int 0, .int 0, .int 0, .int 0, .ref q_32, .ref q_33])), (q_32, .inl (cA_34, 0, .inr (.inl (fun _ => 0)))), (q_33, .inl (cA_35, 0, .inl (fun _ => 0))), (q_36, .inr (1, [.int 0, .int 0, .int 0, .int 0, .int 0, .ref q_39, .ref q_40])), (q_39, .inl (cA_41, 0, .inr (.inl (fun _ => 0)))), (q_40, .inl (cA_42, 0, .inl (fun _ => 0))), (q_43, .inr (1, [.int 0, .int 0, .int 0, .int 0, .int 0, .ref q_46, .ref q_47])), (q_46, .inl (cA_48, 0, .inr (.inl (fun _ => 0)))), (q_47, .inl (cA_49, 0, .inl (fun _ => 0))), (q_50, .inl (cA_51, 3, .inl (fun _ => 0))), (q_52, .inl (cA_53, 4, .inr (.inr (.inr (.inr (fun _ => none))))))] H := hP
  have hD : va_D A [(h0, .inr (7, [.ref q_1, .ref q_6, .ref q_17, .ref q_20, .ref q_27, .ref q_50, .null, .null, .null, .null])), (q_1, .inr (6, [.ref q_4, .int 0])), (q_4, .inl (cA_5, 1200, .inl (fun _ => 0))), (q_6, .inr (3, [.int 0, .int 0, .int 0, .int 0, .int 0, .ref q_9, .ref q_10, .ref q_11, .ref q_12])), (q_9, .inl (cA_13, 9, .inl (fun _ => 0))), (q_10, .inl (cA_14, 600, .inl (fun _ => 0))), (q_11, .inl (cA_15, 600, .inr (.inl (fun _ => 0)))), (q_12, .inl (cA_16, 600, .inr (.inl (fun _ => 0)))), (q_17, .inr (0, [.ref q_1, .ref q_6, .int 0, .int (-1), .int 0, .int 0, .int 0, .int 0, .int 0])), (q_20, .inr (1, [.int 0, .int 0, .int 0, .int 0, .int 0, .ref q_23, .ref q_24])), (q_23, .inl (cA_25, 0, .inr (.inl (fun _ => 0)))), (q_24, .inl (cA_26, 0, .inl (fun _ => 0))), (q_27, .inl (cA_28, 3, .inr (.inr (.inr (.inr (va_up (va_up (va_up (fun _ => none) (0 : Int32).toNatClampNeg (some q_29)) (1 : Int32).toNatClampNeg (some q_36)) (2 : Int32).toNatClampNeg (some q_43))))))), (q_29, .inr (1, [.int 0, .int 0, .int 0, .int 0, .int 0, .ref q_32, .ref q_33])), (q_32, .inl (cA_34, 0, .inr (.inl (fun _ => 0)))), (q_33, .inl (cA_35, 0, .inl (fun _ => 0))), (q_36, .inr (1, [.int 0, .int 0, .int 0, .int 0, .int 0, .ref q_39, .ref q_40])), (q_39, .inl (cA_41, 0, .inr (.inl (fun _ => 0)))), (q_40, .inl (cA_42, 0, .inl (fun _ => 0))), (q_43, .inr (1, [.int 0, .int 0, .int 0, .int 0, .int 0, .ref q_46, .ref q_47])), (q_46, .inl (cA_48, 0, .inr (.inl (fun _ => 0)))), (q_47, .inl (cA_49, 0, .inl (fun _ => 0))), (q_50, .inl (cA_51, 3, .inl (fun _ => 0))), (q_52, .inl (cA_53, 4, .inr (.inr (.inr (.inr (fun _ => none))))))] := hD
  have hK : va_K (dC, dI) vwCl [(cA_5, .byte), (cA_13, .int), (cA_14, .int), (cA_15, .long), (cA_16, .long), (cA_25, .long), (cA_26, .int), (cA_28, .object RX2), (cA_34, .long), (cA_35, .int), (cA_41, .long), (cA_42, .int), (cA_48, .long), (cA_49, .int), (cA_51, .boolean), (cA_53, .object RX3)] s := hK
  refine W.widen (k := 23) (n := 3067) (lel _ _ rfl) (lel _ _ rfl) ?_
  refine lv_dup hx hb dX9_init_110 rfl ?_
  refine lv_iconst (v := 0) hx hb dX9_init_111 (by decide) ?_
  refine va_new (ci := 2) (fs := [.int 0, .int 0, .null]) (C := RX3) (T := TX3) (N := 3) hx hb hts iX9_init_X3 tyX3 tyX3_ok hown (hts (.classLink RX9 47 RX3) (List.mem_of_getElem? (i := 49) rfl)) (hts (.instantiable RX3 3) (List.mem_of_getElem? (i := 50) rfl)) (hts (.initialized RX3) (List.mem_of_getElem? (i := 51) rfl)) hK hP hD hS hA rfl (fun j hj => by rcases (show j = 0 ∨ j = 1 ∨ j = 2 by omega) with rfl | rfl | rfl <;> rfl) (lel 24 38 rfl) (lel 3070 3520 rfl) dX9_init_112 (fun q_54 H hP hD hS => ?_)
  have hP : va_P (dC, dI) vwCl [(h0, .inr (7, [.ref q_1, .ref q_6, .ref q_17, .ref q_20, .ref q_27, .ref q_50, .null, .null, .null, .null])), (q_1, .inr (6, [.ref q_4, .int 0])), (q_4, .inl (cA_5, 1200, .inl (fun _ => 0))), (q_6, .inr (3, [.int 0, .int 0, .int 0, .int 0, .int 0, .ref q_9, .ref q_10, .ref q_11, .ref q_12])), (q_9, .inl (cA_13, 9, .inl (fun _ => 0))), (q_10, .inl (cA_14, 600, .inl (fun _ => 0))), (q_11, .inl (cA_15, 600, .inr (.inl (fun _ => 0)))), (q_12, .inl (cA_16, 600, .inr (.inl (fun _ => 0)))), (q_17, .inr (0, [.ref q_1, .ref q_6, .int 0, .int (-1), .int 0, .int 0, .int 0, .int 0, .int 0])), (q_20, .inr (1, [.int 0, .int 0, .int 0, .int 0, .int 0, .ref q_23, .ref q_24])), (q_23, .inl (cA_25, 0, .inr (.inl (fun _ => 0)))), (q_24, .inl (cA_26, 0, .inl (fun _ => 0))), (q_27, .inl (cA_28, 3, .inr (.inr (.inr (.inr (va_up (va_up (va_up (fun _ => none) (0 : Int32).toNatClampNeg (some q_29)) (1 : Int32).toNatClampNeg (some q_36)) (2 : Int32).toNatClampNeg (some q_43))))))), (q_29, .inr (1, [.int 0, .int 0, .int 0, .int 0, .int 0, .ref q_32, .ref q_33])), (q_32, .inl (cA_34, 0, .inr (.inl (fun _ => 0)))), (q_33, .inl (cA_35, 0, .inl (fun _ => 0))), (q_36, .inr (1, [.int 0, .int 0, .int 0, .int 0, .int 0, .ref q_39, .ref q_40])), (q_39, .inl (cA_41, 0, .inr (.inl (fun _ => 0)))), (q_40, .inl (cA_42, 0, .inl (fun _ => 0))), (q_43, .inr (1, [.int 0, .int 0, .int 0, .int 0, .int 0, .ref q_46, .ref q_47])), (q_46, .inl (cA_48, 0, .inr (.inl (fun _ => 0)))), (q_47, .inl (cA_49, 0, .inl (fun _ => 0))), (q_50, .inl (cA_51, 3, .inl (fun _ => 0))), (q_52, .inl (cA_53, 4, .inr (.inr (.inr (.inr (fun _ => none)))))), (q_54, .inr (2, [.int 0, .int 0, .null]))] H := hP
  have hD : va_D A [(h0, .inr (7, [.ref q_1, .ref q_6, .ref q_17, .ref q_20, .ref q_27, .ref q_50, .null, .null, .null, .null])), (q_1, .inr (6, [.ref q_4, .int 0])), (q_4, .inl (cA_5, 1200, .inl (fun _ => 0))), (q_6, .inr (3, [.int 0, .int 0, .int 0, .int 0, .int 0, .ref q_9, .ref q_10, .ref q_11, .ref q_12])), (q_9, .inl (cA_13, 9, .inl (fun _ => 0))), (q_10, .inl (cA_14, 600, .inl (fun _ => 0))), (q_11, .inl (cA_15, 600, .inr (.inl (fun _ => 0)))), (q_12, .inl (cA_16, 600, .inr (.inl (fun _ => 0)))), (q_17, .inr (0, [.ref q_1, .ref q_6, .int 0, .int (-1), .int 0, .int 0, .int 0, .int 0, .int 0])), (q_20, .inr (1, [.int 0, .int 0, .int 0, .int 0, .int 0, .ref q_23, .ref q_24])), (q_23, .inl (cA_25, 0, .inr (.inl (fun _ => 0)))), (q_24, .inl (cA_26, 0, .inl (fun _ => 0))), (q_27, .inl (cA_28, 3, .inr (.inr (.inr (.inr (va_up (va_up (va_up (fun _ => none) (0 : Int32).toNatClampNeg (some q_29)) (1 : Int32).toNatClampNeg (some q_36)) (2 : Int32).toNatClampNeg (some q_43))))))), (q_29, .inr (1, [.int 0, .int 0, .int 0, .int 0, .int 0, .ref q_32, .ref q_33])), (q_32, .inl (cA_34, 0, .inr (.inl (fun _ => 0)))), (q_33, .inl (cA_35, 0, .inl (fun _ => 0))), (q_36, .inr (1, [.int 0, .int 0, .int 0, .int 0, .int 0, .ref q_39, .ref q_40])), (q_39, .inl (cA_41, 0, .inr (.inl (fun _ => 0)))), (q_40, .inl (cA_42, 0, .inl (fun _ => 0))), (q_43, .inr (1, [.int 0, .int 0, .int 0, .int 0, .int 0, .ref q_46, .ref q_47])), (q_46, .inl (cA_48, 0, .inr (.inl (fun _ => 0)))), (q_47, .inl (cA_49, 0, .inl (fun _ => 0))), (q_50, .inl (cA_51, 3, .inl (fun _ => 0))), (q_52, .inl (cA_53, 4, .inr (.inr (.inr (.inr (fun _ => none)))))), (q_54, .inr (2, [.int 0, .int 0, .null]))] := hD
  refine W.widen (k := 24) (n := 3070) (lel _ _ rfl) (lel _ _ rfl) ?_
  refine lv_dup hx hb dX9_init_115 rfl ?_
  have hFc := va_free (wc := [(q_54, .inr (2, [.int 0, .int 0, .null]))]) hD hS hA [24] rfl
  refine va_callv (va_runIN (As := []) (rest := [.ref q_54, .int 0, .ref q_52, .ref q_52, .ref h0]) ⟨hx, hb, hml, hown, hts⟩ (kX3_init l dC dI q_54 (H.size)) ⟨va_cnB (host := RX9) 0 hts gX9_init__X3_init_I rfl rfl rfl (hN _ (List.mem_of_getElem? (i := 26) rfl)) (hts (.initialized RX3) (List.mem_of_getElem? (i := 51) rfl)) (by decide +kernel) ⟨lel 2 2 rfl, lel 32 34 rfl⟩, rfl, (hts (.instanceMethod yX3_init) (List.mem_of_getElem? (i := 56) rfl))⟩ ⟨hw_fb, (hw_use hP hD hK hN [24] rfl (by decide) rfl [] rfl)⟩ rfl rfl hl.1 rfl (lv_room (Nat.le_of_ble_eq_true rfl)) dX9_init_116 ⟨lel 25 38 rfl, lel 3130 3520 rfl⟩) hS (fun q _ h => hFc q h) hFc (fun u_56 t H1 locs ht hvm hwr_55 hB hz1 hk1 hS => ?_)
  obtain ⟨q_57, cA_58, hP1, hK1, hD1⟩ := hB
  rw [ht] at hP1
  have hK1 := va_K.moved hvm.symm hK1
  obtain ⟨hP, hD⟩ := va_join (wr := [(h0, .inr (7, [.ref q_1, .ref q_6, .ref q_17, .ref q_20, .ref q_27, .ref q_50, .null, .null, .null, .null])), (q_1, .inr (6, [.ref q_4, .int 0])), (q_4, .inl (cA_5, 1200, .inl (fun _ => 0))), (q_6, .inr (3, [.int 0, .int 0, .int 0, .int 0, .int 0, .ref q_9, .ref q_10, .ref q_11, .ref q_12])), (q_9, .inl (cA_13, 9, .inl (fun _ => 0))), (q_10, .inl (cA_14, 600, .inl (fun _ => 0))), (q_11, .inl (cA_15, 600, .inr (.inl (fun _ => 0)))), (q_12, .inl (cA_16, 600, .inr (.inl (fun _ => 0)))), (q_17, .inr (0, [.ref q_1, .ref q_6, .int 0, .int (-1), .int 0, .int 0, .int 0, .int 0, .int 0])), (q_20, .inr (1, [.int 0, .int 0, .int 0, .int 0, .int 0, .ref q_23, .ref q_24])), (q_23, .inl (cA_25, 0, .inr (.inl (fun _ => 0)))), (q_24, .inl (cA_26, 0, .inl (fun _ => 0))), (q_27, .inl (cA_28, 3, .inr (.inr (.inr (.inr (va_up (va_up (va_up (fun _ => none) (0 : Int32).toNatClampNeg (some q_29)) (1 : Int32).toNatClampNeg (some q_36)) (2 : Int32).toNatClampNeg (some q_43))))))), (q_29, .inr (1, [.int 0, .int 0, .int 0, .int 0, .int 0, .ref q_32, .ref q_33])), (q_32, .inl (cA_34, 0, .inr (.inl (fun _ => 0)))), (q_33, .inl (cA_35, 0, .inl (fun _ => 0))), (q_36, .inr (1, [.int 0, .int 0, .int 0, .int 0, .int 0, .ref q_39, .ref q_40])), (q_39, .inl (cA_41, 0, .inr (.inl (fun _ => 0)))), (q_40, .inl (cA_42, 0, .inl (fun _ => 0))), (q_43, .inr (1, [.int 0, .int 0, .int 0, .int 0, .int 0, .ref q_46, .ref q_47])), (q_46, .inl (cA_48, 0, .inr (.inl (fun _ => 0)))), (q_47, .inl (cA_49, 0, .inl (fun _ => 0))), (q_50, .inl (cA_51, 3, .inl (fun _ => 0))), (q_52, .inl (cA_53, 4, .inr (.inr (.inr (.inr (fun _ => none))))))]) (w1 := [(q_54, .inr (2, [.int (-1), .int 0, .ref q_57])), (q_57, .inl (cA_58, 60, .inr (.inl (fun _ => 0))))]) hP hD [24] [0, 1, 2, 3, 4, 5, 6, 7, 8, 9, 10, 11, 12, 13, 14, 15, 16, 17, 18, 19, 20, 21, 22, 23] rfl rfl (by decide) (by decide) hk1 hFc hP1 hD1
  have hK := (hK.sub (tys' := [(cA_5, .byte), (cA_13, .int), (cA_14, .int), (cA_15, .long), (cA_16, .long), (cA_25, .long), (cA_26, .int), (cA_28, .object RX2), (cA_34, .long), (cA_35, .int), (cA_41, .long), (cA_42, .int), (cA_48, .long), (cA_49, .int), (cA_51, .boolean), (cA_53, .object RX3)]) [0, 1, 2, 3, 4, 5, 6, 7, 8, 9, 10, 11, 12, 13, 14, 15] rfl).app hK1
  generalize H1 = H at hP hS ⊢
  have hP : va_P (dC, dI) vwCl [(h0, .inr (7, [.ref q_1, .ref q_6, .ref q_17, .ref q_20, .ref q_27, .ref q_50, .null, .null, .null, .null])), (q_1, .inr (6, [.ref q_4, .int 0])), (q_4, .inl (cA_5, 1200, .inl (fun _ => 0))), (q_6, .inr (3, [.int 0, .int 0, .int 0, .int 0, .int 0, .ref q_9, .ref q_10, .ref q_11, .ref q_12])), (q_9, .inl (cA_13, 9, .inl (fun _ => 0))), (q_10, .inl (cA_14, 600, .inl (fun _ => 0))), (q_11, .inl (cA_15, 600, .inr (.inl (fun _ => 0)))), (q_12, .inl (cA_16, 600, .inr (.inl (fun _ => 0)))), (q_17, .inr (0, [.ref q_1, .ref q_6, .int 0, .int (-1), .int 0, .int 0, .int 0, .int 0, .int 0])), (q_20, .inr (1, [.int 0, .int 0, .int 0, .int 0, .int 0, .ref q_23, .ref q_24])), (q_23, .inl (cA_25, 0, .inr (.inl (fun _ => 0)))), (q_24, .inl (cA_26, 0, .inl (fun _ => 0))), (q_27, .inl (cA_28, 3, .inr (.inr (.inr (.inr (va_up (va_up (va_up (fun _ => none) (0 : Int32).toNatClampNeg (some q_29)) (1 : Int32).toNatClampNeg (some q_36)) (2 : Int32).toNatClampNeg (some q_43))))))), (q_29, .inr (1, [.int 0, .int 0, .int 0, .int 0, .int 0, .ref q_32, .ref q_33])), (q_32, .inl (cA_34, 0, .inr (.inl (fun _ => 0)))), (q_33, .inl (cA_35, 0, .inl (fun _ => 0))), (q_36, .inr (1, [.int 0, .int 0, .int 0, .int 0, .int 0, .ref q_39, .ref q_40])), (q_39, .inl (cA_41, 0, .inr (.inl (fun _ => 0)))), (q_40, .inl (cA_42, 0, .inl (fun _ => 0))), (q_43, .inr (1, [.int 0, .int 0, .int 0, .int 0, .int 0, .ref q_46, .ref q_47])), (q_46, .inl (cA_48, 0, .inr (.inl (fun _ => 0)))), (q_47, .inl (cA_49, 0, .inl (fun _ => 0))), (q_50, .inl (cA_51, 3, .inl (fun _ => 0))), (q_52, .inl (cA_53, 4, .inr (.inr (.inr (.inr (fun _ => none)))))), (q_54, .inr (2, [.int (-1), .int 0, .ref q_57])), (q_57, .inl (cA_58, 60, .inr (.inl (fun _ => 0))))] H := hP
  have hD : va_D A [(h0, .inr (7, [.ref q_1, .ref q_6, .ref q_17, .ref q_20, .ref q_27, .ref q_50, .null, .null, .null, .null])), (q_1, .inr (6, [.ref q_4, .int 0])), (q_4, .inl (cA_5, 1200, .inl (fun _ => 0))), (q_6, .inr (3, [.int 0, .int 0, .int 0, .int 0, .int 0, .ref q_9, .ref q_10, .ref q_11, .ref q_12])), (q_9, .inl (cA_13, 9, .inl (fun _ => 0))), (q_10, .inl (cA_14, 600, .inl (fun _ => 0))), (q_11, .inl (cA_15, 600, .inr (.inl (fun _ => 0)))), (q_12, .inl (cA_16, 600, .inr (.inl (fun _ => 0)))), (q_17, .inr (0, [.ref q_1, .ref q_6, .int 0, .int (-1), .int 0, .int 0, .int 0, .int 0, .int 0])), (q_20, .inr (1, [.int 0, .int 0, .int 0, .int 0, .int 0, .ref q_23, .ref q_24])), (q_23, .inl (cA_25, 0, .inr (.inl (fun _ => 0)))), (q_24, .inl (cA_26, 0, .inl (fun _ => 0))), (q_27, .inl (cA_28, 3, .inr (.inr (.inr (.inr (va_up (va_up (va_up (fun _ => none) (0 : Int32).toNatClampNeg (some q_29)) (1 : Int32).toNatClampNeg (some q_36)) (2 : Int32).toNatClampNeg (some q_43))))))), (q_29, .inr (1, [.int 0, .int 0, .int 0, .int 0, .int 0, .ref q_32, .ref q_33])), (q_32, .inl (cA_34, 0, .inr (.inl (fun _ => 0)))), (q_33, .inl (cA_35, 0, .inl (fun _ => 0))), (q_36, .inr (1, [.int 0, .int 0, .int 0, .int 0, .int 0, .ref q_39, .ref q_40])), (q_39, .inl (cA_41, 0, .inr (.inl (fun _ => 0)))), (q_40, .inl (cA_42, 0, .inl (fun _ => 0))), (q_43, .inr (1, [.int 0, .int 0, .int 0, .int 0, .int 0, .ref q_46, .ref q_47])), (q_46, .inl (cA_48, 0, .inr (.inl (fun _ => 0)))), (q_47, .inl (cA_49, 0, .inl (fun _ => 0))), (q_50, .inl (cA_51, 3, .inl (fun _ => 0))), (q_52, .inl (cA_53, 4, .inr (.inr (.inr (.inr (fun _ => none)))))), (q_54, .inr (2, [.int (-1), .int 0, .ref q_57])), (q_57, .inl (cA_58, 60, .inr (.inl (fun _ => 0))))] := hD
  have hK : va_K (dC, dI) vwCl [(cA_5, .byte), (cA_13, .int), (cA_14, .int), (cA_15, .long), (cA_16, .long), (cA_25, .long), (cA_26, .int), (cA_28, .object RX2), (cA_34, .long), (cA_35, .int), (cA_41, .long), (cA_42, .int), (cA_48, .long), (cA_49, .int), (cA_51, .boolean), (cA_53, .object RX3), (cA_58, .long)] s := hK
  refine W.widen (k := 25) (n := 3130) (lel _ _ rfl) (lel _ _ rfl) ?_
  refine va_astq hx hb hK hP hD hS 23 15 24 2 rfl rfl rfl rfl (vp_in_lit (by decide)) dX9_init_119 (fun H locs hP hD hS => ?_)
  have hP : va_P (dC, dI) vwCl [(h0, .inr (7, [.ref q_1, .ref q_6, .ref q_17, .ref q_20, .ref q_27, .ref q_50, .null, .null, .null, .null])), (q_1, .inr (6, [.ref q_4, .int 0])), (q_4, .inl (cA_5, 1200, .inl (fun _ => 0))), (q_6, .inr (3, [.int 0, .int 0, .int 0, .int 0, .int 0, .ref q_9, .ref q_10, .ref q_11, .ref q_12])), (q_9, .inl (cA_13, 9, .inl (fun _ => 0))), (q_10, .inl (cA_14, 600, .inl (fun _ => 0))), (q_11, .inl (cA_15, 600, .inr (.inl (fun _ => 0)))), (q_12, .inl (cA_16, 600, .inr (.inl (fun _ => 0)))), (q_17, .inr (0, [.ref q_1, .ref q_6, .int 0, .int (-1), .int 0, .int 0, .int 0, .int 0, .int 0])), (q_20, .inr (1, [.int 0, .int 0, .int 0, .int 0, .int 0, .ref q_23, .ref q_24])), (q_23, .inl (cA_25, 0, .inr (.inl (fun _ => 0)))), (q_24, .inl (cA_26, 0, .inl (fun _ => 0))), (q_27, .inl (cA_28, 3, .inr (.inr (.inr (.inr (va_up (va_up (va_up (fun _ => none) (0 : Int32).toNatClampNeg (some q_29)) (1 : Int32).toNatClampNeg (some q_36)) (2 : Int32).toNatClampNeg (some q_43))))))), (q_29, .inr (1, [.int 0, .int 0, .int 0, .int 0, .int 0, .ref q_32, .ref q_33])), (q_32, .inl (cA_34, 0, .inr (.inl (fun _ => 0)))), (q_33, .inl (cA_35, 0, .inl (fun _ => 0))), (q_36, .inr (1, [.int 0, .int 0, .int 0, .int 0, .int 0, .ref q_39, .ref q_40])), (q_39, .inl (cA_41, 0, .inr (.inl (fun _ => 0)))), (q_40, .inl (cA_42, 0, .inl (fun _ => 0))), (q_43, .inr (1, [.int 0, .int 0, .int 0, .int 0, .int 0, .ref q_46, .ref q_47])), (q_46, .inl (cA_48, 0, .inr (.inl (fun _ => 0)))), (q_47, .inl (cA_49, 0, .inl (fun _ => 0))), (q_50, .inl (cA_51, 3, .inl (fun _ => 0))), (q_52, .inl (cA_53, 4, .inr (.inr (.inr (.inr (va_up (fun _ => none) (0 : Int32).toNatClampNeg (some q_54))))))), (q_54, .inr (2, [.int (-1), .int 0, .ref q_57])), (q_57, .inl (cA_58, 60, .inr (.inl (fun _ => 0))))] H := hP
  have hD : va_D A [(h0, .inr (7, [.ref q_1, .ref q_6, .ref q_17, .ref q_20, .ref q_27, .ref q_50, .null, .null, .null, .null])), (q_1, .inr (6, [.ref q_4, .int 0])), (q_4, .inl (cA_5, 1200, .inl (fun _ => 0))), (q_6, .inr (3, [.int 0, .int 0, .int 0, .int 0, .int 0, .ref q_9, .ref q_10, .ref q_11, .ref q_12])), (q_9, .inl (cA_13, 9, .inl (fun _ => 0))), (q_10, .inl (cA_14, 600, .inl (fun _ => 0))), (q_11, .inl (cA_15, 600, .inr (.inl (fun _ => 0)))), (q_12, .inl (cA_16, 600, .inr (.inl (fun _ => 0)))), (q_17, .inr (0, [.ref q_1, .ref q_6, .int 0, .int (-1), .int 0, .int 0, .int 0, .int 0, .int 0])), (q_20, .inr (1, [.int 0, .int 0, .int 0, .int 0, .int 0, .ref q_23, .ref q_24])), (q_23, .inl (cA_25, 0, .inr (.inl (fun _ => 0)))), (q_24, .inl (cA_26, 0, .inl (fun _ => 0))), (q_27, .inl (cA_28, 3, .inr (.inr (.inr (.inr (va_up (va_up (va_up (fun _ => none) (0 : Int32).toNatClampNeg (some q_29)) (1 : Int32).toNatClampNeg (some q_36)) (2 : Int32).toNatClampNeg (some q_43))))))), (q_29, .inr (1, [.int 0, .int 0, .int 0, .int 0, .int 0, .ref q_32, .ref q_33])), (q_32, .inl (cA_34, 0, .inr (.inl (fun _ => 0)))), (q_33, .inl (cA_35, 0, .inl (fun _ => 0))), (q_36, .inr (1, [.int 0, .int 0, .int 0, .int 0, .int 0, .ref q_39, .ref q_40])), (q_39, .inl (cA_41, 0, .inr (.inl (fun _ => 0)))), (q_40, .inl (cA_42, 0, .inl (fun _ => 0))), (q_43, .inr (1, [.int 0, .int 0, .int 0, .int 0, .int 0, .ref q_46, .ref q_47])), (q_46, .inl (cA_48, 0, .inr (.inl (fun _ => 0)))), (q_47, .inl (cA_49, 0, .inl (fun _ => 0))), (q_50, .inl (cA_51, 3, .inl (fun _ => 0))), (q_52, .inl (cA_53, 4, .inr (.inr (.inr (.inr (va_up (fun _ => none) (0 : Int32).toNatClampNeg (some q_54))))))), (q_54, .inr (2, [.int (-1), .int 0, .ref q_57])), (q_57, .inl (cA_58, 60, .inr (.inl (fun _ => 0))))] := hD
  refine lv_dup hx hb dX9_init_120 rfl ?_
  refine lv_iconst (v := 1) hx hb dX9_init_121 (by decide) ?_
  refine va_new (ci := 2) (fs := [.int 0, .int 0, .null]) (C := RX3) (T := TX3) (N := 3) hx hb hts iX9_init_X3 tyX3 tyX3_ok hown (hts (.classLink RX9 47 RX3) (List.mem_of_getElem? (i := 49) rfl)) (hts (.instantiable RX3 3) (List.mem_of_getElem? (i := 50) rfl)) (hts (.initialized RX3) (List.mem_of_getElem? (i := 51) rfl)) hK hP hD hS hA rfl (fun j hj => by rcases (show j = 0 ∨ j = 1 ∨ j = 2 by omega) with rfl | rfl | rfl <;> rfl) (lel 26 38 rfl) (lel 3133 3520 rfl) dX9_init_122 (fun q_59 H hP hD hS => ?_)
  have hP : va_P (dC, dI) vwCl [(h0, .inr (7, [.ref q_1, .ref q_6, .ref q_17, .ref q_20, .ref q_27, .ref q_50, .null, .null, .null, .null])), (q_1, .inr (6, [.ref q_4, .int 0])), (q_4, .inl (cA_5, 1200, .inl (fun _ => 0))), (q_6, .inr (3, [.int 0, .int 0, .int 0, .int 0, .int 0, .ref q_9, .ref q_10, .ref q_11, .ref q_12])), (q_9, .inl (cA_13, 9, .inl (fun _ => 0))), (q_10, .inl (cA_14, 600, .inl (fun _ => 0))), (q_11, .inl (cA_15, 600, .inr (.inl (fun _ => 0)))), (q_12, .inl (cA_16, 600, .inr (.inl (fun _ => 0)))), (q_17, .inr (0, [.ref q_1, .ref q_6, .int 0, .int (-1), .int 0, .int 0, .int 0, .int 0, .int 0])), (q_20, .inr (1, [.int 0, .int 0, .int 0, .int 0, .int 0, .ref q_23, .ref q_24])), (q_23, .inl (cA_25, 0, .inr (.inl (fun _ => 0)))), (q_24, .inl (cA_26, 0, .inl (fun _ => 0))), (q_27, .inl (cA_28, 3, .inr (.inr (.inr (.inr (va_up (va_up (va_up (fun _ => none) (0 : Int32).toNatClampNeg (some q_29)) (1 : Int32).toNatClampNeg (some q_36)) (2 : Int32).toNatClampNeg (some q_43))))))), (q_29, .inr (1, [.int 0, .int 0, .int 0, .int 0, .int 0, .ref q_32, .ref q_33])), (q_32, .inl (cA_34, 0, .inr (.inl (fun _ => 0)))), (q_33, .inl (cA_35, 0, .inl (fun _ => 0))), (q_36, .inr (1, [.int 0, .int 0, .int 0, .int 0, .int 0, .ref q_39, .ref q_40])), (q_39, .inl (cA_41, 0, .inr (.inl (fun _ => 0)))), (q_40, .inl (cA_42, 0, .inl (fun _ => 0))), (q_43, .inr (1, [.int 0, .int 0, .int 0, .int 0, .int 0, .ref q_46, .ref q_47])), (q_46, .inl (cA_48, 0, .inr (.inl (fun _ => 0)))), (q_47, .inl (cA_49, 0, .inl (fun _ => 0))), (q_50, .inl (cA_51, 3, .inl (fun _ => 0))), (q_52, .inl (cA_53, 4, .inr (.inr (.inr (.inr (va_up (fun _ => none) (0 : Int32).toNatClampNeg (some q_54))))))), (q_54, .inr (2, [.int (-1), .int 0, .ref q_57])), (q_57, .inl (cA_58, 60, .inr (.inl (fun _ => 0)))), (q_59, .inr (2, [.int 0, .int 0, .null]))] H := hP
  have hD : va_D A [(h0, .inr (7, [.ref q_1, .ref q_6, .ref q_17, .ref q_20, .ref q_27, .ref q_50, .null, .null, .null, .null])), (q_1, .inr (6, [.ref q_4, .int 0])), (q_4, .inl (cA_5, 1200, .inl (fun _ => 0))), (q_6, .inr (3, [.int 0, .int 0, .int 0, .int 0, .int 0, .ref q_9, .ref q_10, .ref q_11, .ref q_12])), (q_9, .inl (cA_13, 9, .inl (fun _ => 0))), (q_10, .inl (cA_14, 600, .inl (fun _ => 0))), (q_11, .inl (cA_15, 600, .inr (.inl (fun _ => 0)))), (q_12, .inl (cA_16, 600, .inr (.inl (fun _ => 0)))), (q_17, .inr (0, [.ref q_1, .ref q_6, .int 0, .int (-1), .int 0, .int 0, .int 0, .int 0, .int 0])), (q_20, .inr (1, [.int 0, .int 0, .int 0, .int 0, .int 0, .ref q_23, .ref q_24])), (q_23, .inl (cA_25, 0, .inr (.inl (fun _ => 0)))), (q_24, .inl (cA_26, 0, .inl (fun _ => 0))), (q_27, .inl (cA_28, 3, .inr (.inr (.inr (.inr (va_up (va_up (va_up (fun _ => none) (0 : Int32).toNatClampNeg (some q_29)) (1 : Int32).toNatClampNeg (some q_36)) (2 : Int32).toNatClampNeg (some q_43))))))), (q_29, .inr (1, [.int 0, .int 0, .int 0, .int 0, .int 0, .ref q_32, .ref q_33])), (q_32, .inl (cA_34, 0, .inr (.inl (fun _ => 0)))), (q_33, .inl (cA_35, 0, .inl (fun _ => 0))), (q_36, .inr (1, [.int 0, .int 0, .int 0, .int 0, .int 0, .ref q_39, .ref q_40])), (q_39, .inl (cA_41, 0, .inr (.inl (fun _ => 0)))), (q_40, .inl (cA_42, 0, .inl (fun _ => 0))), (q_43, .inr (1, [.int 0, .int 0, .int 0, .int 0, .int 0, .ref q_46, .ref q_47])), (q_46, .inl (cA_48, 0, .inr (.inl (fun _ => 0)))), (q_47, .inl (cA_49, 0, .inl (fun _ => 0))), (q_50, .inl (cA_51, 3, .inl (fun _ => 0))), (q_52, .inl (cA_53, 4, .inr (.inr (.inr (.inr (va_up (fun _ => none) (0 : Int32).toNatClampNeg (some q_54))))))), (q_54, .inr (2, [.int (-1), .int 0, .ref q_57])), (q_57, .inl (cA_58, 60, .inr (.inl (fun _ => 0)))), (q_59, .inr (2, [.int 0, .int 0, .null]))] := hD
  refine W.widen (k := 26) (n := 3133) (lel _ _ rfl) (lel _ _ rfl) ?_
  refine lv_dup hx hb dX9_init_125 rfl ?_
  have hFc := va_free (wc := [(q_59, .inr (2, [.int 0, .int 0, .null]))]) hD hS hA [26] rfl
  refine va_callv (va_runIN (As := []) (rest := [.ref q_59, .int 1, .ref q_52, .ref q_52, .ref h0]) ⟨hx, hb, hml, hown, hts⟩ (kX3_init l dC dI q_59 (H.size)) ⟨va_cnB (host := RX9) 0 hts gX9_init__X3_init_I rfl rfl rfl (hN _ (List.mem_of_getElem? (i := 26) rfl)) (hts (.initialized RX3) (List.mem_of_getElem? (i := 51) rfl)) (by decide +kernel) ⟨lel 2 2 rfl, lel 32 34 rfl⟩, rfl, (hts (.instanceMethod yX3_init) (List.mem_of_getElem? (i := 56) rfl))⟩ ⟨hw_fb, (hw_use hP hD hK hN [26] rfl (by decide) rfl [] rfl)⟩ rfl rfl hl.1 rfl (lv_room (Nat.le_of_ble_eq_true rfl)) dX9_init_126 ⟨lel 27 38 rfl, lel 3193 3520 rfl⟩) hS (fun q _ h => hFc q h) hFc (fun u_61 t H1 locs ht hvm hwr_60 hB hz1 hk1 hS => ?_)
  obtain ⟨q_62, cA_63, hP1, hK1, hD1⟩ := hB
  rw [ht] at hP1
  have hK1 := va_K.moved hvm.symm hK1
  obtain ⟨hP, hD⟩ := va_join (wr := [(h0, .inr (7, [.ref q_1, .ref q_6, .ref q_17, .ref q_20, .ref q_27, .ref q_50, .null, .null, .null, .null])), (q_1, .inr (6, [.ref q_4, .int 0])), (q_4, .inl (cA_5, 1200, .inl (fun _ => 0))), (q_6, .inr (3, [.int 0, .int 0, .int 0, .int 0, .int 0, .ref q_9, .ref q_10, .ref q_11, .ref q_12])), (q_9, .inl (cA_13, 9, .inl (fun _ => 0))), (q_10, .inl (cA_14, 600, .inl (fun _ => 0))), (q_11, .inl (cA_15, 600, .inr (.inl (fun _ => 0)))), (q_12, .inl (cA_16, 600, .inr (.inl (fun _ => 0)))), (q_17, .inr (0, [.ref q_1, .ref q_6, .int 0, .int (-1), .int 0, .int 0, .int 0, .int 0, .int 0])), (q_20, .inr (1, [.int 0, .int 0, .int 0, .int 0, .int 0, .ref q_23, .ref q_24])), (q_23, .inl (cA_25, 0, .inr (.inl (fun _ => 0)))), (q_24, .inl (cA_26, 0, .inl (fun _ => 0))), (q_27, .inl (cA_28, 3, .inr (.inr (.inr (.inr (va_up (va_up (va_up (fun _ => none) (0 : Int32).toNatClampNeg (some q_29)) (1 : Int32).toNatClampNeg (some q_36)) (2 : Int32).toNatClampNeg (some q_43))))))), (q_29, .inr (1, [.int 0, .int 0, .int 0, .int 0, .int 0, .ref q_32, .ref q_33])), (q_32, .inl (cA_34, 0, .inr (.inl (fun _ => 0)))), (q_33, .inl (cA_35, 0, .inl (fun _ => 0))), (q_36, .inr (1, [.int 0, .int 0, .int 0, .int 0, .int 0, .ref q_39, .ref q_40])), (q_39, .inl (cA_41, 0, .inr (.inl (fun _ => 0)))), (q_40, .inl (cA_42, 0, .inl (fun _ => 0))), (q_43, .inr (1, [.int 0, .int 0, .int 0, .int 0, .int 0, .ref q_46, .ref q_47])), (q_46, .inl (cA_48, 0, .inr (.inl (fun _ => 0)))), (q_47, .inl (cA_49, 0, .inl (fun _ => 0))), (q_50, .inl (cA_51, 3, .inl (fun _ => 0))), (q_52, .inl (cA_53, 4, .inr (.inr (.inr (.inr (va_up (fun _ => none) (0 : Int32).toNatClampNeg (some q_54))))))), (q_54, .inr (2, [.int (-1), .int 0, .ref q_57])), (q_57, .inl (cA_58, 60, .inr (.inl (fun _ => 0))))]) (w1 := [(q_59, .inr (2, [.int (-1), .int 0, .ref q_62])), (q_62, .inl (cA_63, 60, .inr (.inl (fun _ => 0))))]) hP hD [26] [0, 1, 2, 3, 4, 5, 6, 7, 8, 9, 10, 11, 12, 13, 14, 15, 16, 17, 18, 19, 20, 21, 22, 23, 24, 25] rfl rfl (by decide) (by decide) hk1 hFc hP1 hD1
  have hK := (hK.sub (tys' := [(cA_5, .byte), (cA_13, .int), (cA_14, .int), (cA_15, .long), (cA_16, .long), (cA_25, .long), (cA_26, .int), (cA_28, .object RX2), (cA_34, .long), (cA_35, .int), (cA_41, .long), (cA_42, .int), (cA_48, .long), (cA_49, .int), (cA_51, .boolean), (cA_53, .object RX3), (cA_58, .long)]) [0, 1, 2, 3, 4, 5, 6, 7, 8, 9, 10, 11, 12, 13, 14, 15, 16] rfl).app hK1
  generalize H1 = H at hP hS ⊢
  have hP : va_P (dC, dI) vwCl [(h0, .inr (7, [.ref q_1, .ref q_6, .ref q_17, .ref q_20, .ref q_27, .ref q_50, .null, .null, .null, .null])), (q_1, .inr (6, [.ref q_4, .int 0])), (q_4, .inl (cA_5, 1200, .inl (fun _ => 0))), (q_6, .inr (3, [.int 0, .int 0, .int 0, .int 0, .int 0, .ref q_9, .ref q_10, .ref q_11, .ref q_12])), (q_9, .inl (cA_13, 9, .inl (fun _ => 0))), (q_10, .inl (cA_14, 600, .inl (fun _ => 0))), (q_11, .inl (cA_15, 600, .inr (.inl (fun _ => 0)))), (q_12, .inl (cA_16, 600, .inr (.inl (fun _ => 0)))), (q_17, .inr (0, [.ref q_1, .ref q_6, .int 0, .int (-1), .int 0, .int 0, .int 0, .int 0, .int 0])), (q_20, .inr (1, [.int 0, .int 0, .int 0, .int 0, .int 0, .ref q_23, .ref q_24])), (q_23, .inl (cA_25, 0, .inr (.inl (fun _ => 0)))), (q_24, .inl (cA_26, 0, .inl (fun _ => 0))), (q_27, .inl (cA_28, 3, .inr (.inr (.inr (.inr (va_up (va_up (va_up (fun _ => none) (0 : Int32).toNatClampNeg (some q_29)) (1 : Int32).toNatClampNeg (some q_36)) (2 : Int32).toNatClampNeg (some q_43))))))), (q_29, .inr (1, [.int 0, .int 0, .int 0, .int 0, .int 0, .ref q_32, .ref q_33])), (q_32, .inl (cA_34, 0, .inr (.inl (fun _ => 0)))), (q_33, .inl (cA_35, 0, .inl (fun _ => 0))), (q_36, .inr (1, [.int 0, .int 0, .int 0, .int 0, .int 0, .ref q_39, .ref q_40])), (q_39, .inl (cA_41, 0, .inr (.inl (fun _ => 0)))), (q_40, .inl (cA_42, 0, .inl (fun _ => 0))), (q_43, .inr (1, [.int 0, .int 0, .int 0, .int 0, .int 0, .ref q_46, .ref q_47])), (q_46, .inl (cA_48, 0, .inr (.inl (fun _ => 0)))), (q_47, .inl (cA_49, 0, .inl (fun _ => 0))), (q_50, .inl (cA_51, 3, .inl (fun _ => 0))), (q_52, .inl (cA_53, 4, .inr (.inr (.inr (.inr (va_up (fun _ => none) (0 : Int32).toNatClampNeg (some q_54))))))), (q_54, .inr (2, [.int (-1), .int 0, .ref q_57])), (q_57, .inl (cA_58, 60, .inr (.inl (fun _ => 0)))), (q_59, .inr (2, [.int (-1), .int 0, .ref q_62])), (q_62, .inl (cA_63, 60, .inr (.inl (fun _ => 0))))] H := hP
  have hD : va_D A [(h0, .inr (7, [.ref q_1, .ref q_6, .ref q_17, .ref q_20, .ref q_27, .ref q_50, .null, .null, .null, .null])), (q_1, .inr (6, [.ref q_4, .int 0])), (q_4, .inl (cA_5, 1200, .inl (fun _ => 0))), (q_6, .inr (3, [.int 0, .int 0, .int 0, .int 0, .int 0, .ref q_9, .ref q_10, .ref q_11, .ref q_12])), (q_9, .inl (cA_13, 9, .inl (fun _ => 0))), (q_10, .inl (cA_14, 600, .inl (fun _ => 0))), (q_11, .inl (cA_15, 600, .inr (.inl (fun _ => 0)))), (q_12, .inl (cA_16, 600, .inr (.inl (fun _ => 0)))), (q_17, .inr (0, [.ref q_1, .ref q_6, .int 0, .int (-1), .int 0, .int 0, .int 0, .int 0, .int 0])), (q_20, .inr (1, [.int 0, .int 0, .int 0, .int 0, .int 0, .ref q_23, .ref q_24])), (q_23, .inl (cA_25, 0, .inr (.inl (fun _ => 0)))), (q_24, .inl (cA_26, 0, .inl (fun _ => 0))), (q_27, .inl (cA_28, 3, .inr (.inr (.inr (.inr (va_up (va_up (va_up (fun _ => none) (0 : Int32).toNatClampNeg (some q_29)) (1 : Int32).toNatClampNeg (some q_36)) (2 : Int32).toNatClampNeg (some q_43))))))), (q_29, .inr (1, [.int 0, .int 0, .int 0, .int 0, .int 0, .ref q_32, .ref q_33])), (q_32, .inl (cA_34, 0, .inr (.inl (fun _ => 0)))), (q_33, .inl (cA_35, 0, .inl (fun _ => 0))), (q_36, .inr (1, [.int 0, .int 0, .int 0, .int 0, .int 0, .ref q_39, .ref q_40])), (q_39, .inl (cA_41, 0, .inr (.inl (fun _ => 0)))), (q_40, .inl (cA_42, 0, .inl (fun _ => 0))), (q_43, .inr (1, [.int 0, .int 0, .int 0, .int 0, .int 0, .ref q_46, .ref q_47])), (q_46, .inl (cA_48, 0, .inr (.inl (fun _ => 0)))), (q_47, .inl (cA_49, 0, .inl (fun _ => 0))), (q_50, .inl (cA_51, 3, .inl (fun _ => 0))), (q_52, .inl (cA_53, 4, .inr (.inr (.inr (.inr (va_up (fun _ => none) (0 : Int32).toNatClampNeg (some q_54))))))), (q_54, .inr (2, [.int (-1), .int 0, .ref q_57])), (q_57, .inl (cA_58, 60, .inr (.inl (fun _ => 0)))), (q_59, .inr (2, [.int (-1), .int 0, .ref q_62])), (q_62, .inl (cA_63, 60, .inr (.inl (fun _ => 0))))] := hD
  have hK : va_K (dC, dI) vwCl [(cA_5, .byte), (cA_13, .int), (cA_14, .int), (cA_15, .long), (cA_16, .long), (cA_25, .long), (cA_26, .int), (cA_28, .object RX2), (cA_34, .long), (cA_35, .int), (cA_41, .long), (cA_42, .int), (cA_48, .long), (cA_49, .int), (cA_51, .boolean), (cA_53, .object RX3), (cA_58, .long), (cA_63, .long)] s := hK
  refine W.widen (k := 27) (n := 3193) (lel _ _ rfl) (lel _ _ rfl) ?_
  refine va_astq hx hb hK hP hD hS 23 15 26 2 rfl rfl rfl rfl (vp_in_lit (by decide)) dX9_init_129 (fun H locs hP hD hS => ?_)
  have hP : va_P (dC, dI) vwCl [(h0, .inr (7, [.ref q_1, .ref q_6, .ref q_17, .ref q_20, .ref q_27, .ref q_50, .null, .null, .null, .null])), (q_1, .inr (6, [.ref q_4, .int 0])), (q_4, .inl (cA_5, 1200, .inl (fun _ => 0))), (q_6, .inr (3, [.int 0, .int 0, .int 0, .int 0, .int 0, .ref q_9, .ref q_10, .ref q_11, .ref q_12])), (q_9, .inl (cA_13, 9, .inl (fun _ => 0))), (q_10, .inl (cA_14, 600, .inl (fun _ => 0))), (q_11, .inl (cA_15, 600, .inr (.inl (fun _ => 0)))), (q_12, .inl (cA_16, 600, .inr (.inl (fun _ => 0)))), (q_17, .inr (0, [.ref q_1, .ref q_6, .int 0, .int (-1), .int 0, .int 0, .int 0, .int 0, .int 0])), (q_20, .inr (1, [.int 0, .int 0, .int 0, .int 0, .int 0, .ref q_23, .ref q_24])), (q_23, .inl (cA_25, 0, .inr (.inl (fun _ => 0)))), (q_24, .inl (cA_26, 0, .inl (fun _ => 0))), (q_27, .inl (cA_28, 3, .inr (.inr (.inr (.inr (va_up (va_up (va_up (fun _ => none) (0 : Int32).toNatClampNeg (some q_29)) (1 : Int32).toNatClampNeg (some q_36)) (2 : Int32).toNatClampNeg (some q_43))))))), (q_29, .inr (1, [.int 0, .int 0, .int 0, .int 0, .int 0, .ref q_32, .ref q_33])), (q_32, .inl (cA_34, 0, .inr (.inl (fun _ => 0)))), (q_33, .inl (cA_35, 0, .inl (fun _ => 0))), (q_36, .inr (1, [.int 0, .int 0, .int 0, .int 0, .int 0, .ref q_39, .ref q_40])), (q_39, .inl (cA_41, 0, .inr (.inl (fun _ => 0)))), (q_40, .inl (cA_42, 0, .inl (fun _ => 0))), (q_43, .inr (1, [.int 0, .int 0, .int 0, .int 0, .int 0, .ref q_46, .ref q_47])), (q_46, .inl (cA_48, 0, .inr (.inl (fun _ => 0)))), (q_47, .inl (cA_49, 0, .inl (fun _ => 0))), (q_50, .inl (cA_51, 3, .inl (fun _ => 0))), (q_52, .inl (cA_53, 4, .inr (.inr (.inr (.inr (va_up (va_up (fun _ => none) (0 : Int32).toNatClampNeg (some q_54)) (1 : Int32).toNatClampNeg (some q_59))))))), (q_54, .inr (2, [.int (-1), .int 0, .ref q_57])), (q_57, .inl (cA_58, 60, .inr (.inl (fun _ => 0)))), (q_59, .inr (2, [.int (-1), .int 0, .ref q_62])), (q_62, .inl (cA_63, 60, .inr (.inl (fun _ => 0))))] H := hP
  have hD : va_D A [(h0, .inr (7, [.ref q_1, .ref q_6, .ref q_17, .ref q_20, .ref q_27, .ref q_50, .null, .null, .null, .null])), (q_1, .inr (6, [.ref q_4, .int 0])), (q_4, .inl (cA_5, 1200, .inl (fun _ => 0))), (q_6, .inr (3, [.int 0, .int 0, .int 0, .int 0, .int 0, .ref q_9, .ref q_10, .ref q_11, .ref q_12])), (q_9, .inl (cA_13, 9, .inl (fun _ => 0))), (q_10, .inl (cA_14, 600, .inl (fun _ => 0))), (q_11, .inl (cA_15, 600, .inr (.inl (fun _ => 0)))), (q_12, .inl (cA_16, 600, .inr (.inl (fun _ => 0)))), (q_17, .inr (0, [.ref q_1, .ref q_6, .int 0, .int (-1), .int 0, .int 0, .int 0, .int 0, .int 0])), (q_20, .inr (1, [.int 0, .int 0, .int 0, .int 0, .int 0, .ref q_23, .ref q_24])), (q_23, .inl (cA_25, 0, .inr (.inl (fun _ => 0)))), (q_24, .inl (cA_26, 0, .inl (fun _ => 0))), (q_27, .inl (cA_28, 3, .inr (.inr (.inr (.inr (va_up (va_up (va_up (fun _ => none) (0 : Int32).toNatClampNeg (some q_29)) (1 : Int32).toNatClampNeg (some q_36)) (2 : Int32).toNatClampNeg (some q_43))))))), (q_29, .inr (1, [.int 0, .int 0, .int 0, .int 0, .int 0, .ref q_32, .ref q_33])), (q_32, .inl (cA_34, 0, .inr (.inl (fun _ => 0)))), (q_33, .inl (cA_35, 0, .inl (fun _ => 0))), (q_36, .inr (1, [.int 0, .int 0, .int 0, .int 0, .int 0, .ref q_39, .ref q_40])), (q_39, .inl (cA_41, 0, .inr (.inl (fun _ => 0)))), (q_40, .inl (cA_42, 0, .inl (fun _ => 0))), (q_43, .inr (1, [.int 0, .int 0, .int 0, .int 0, .int 0, .ref q_46, .ref q_47])), (q_46, .inl (cA_48, 0, .inr (.inl (fun _ => 0)))), (q_47, .inl (cA_49, 0, .inl (fun _ => 0))), (q_50, .inl (cA_51, 3, .inl (fun _ => 0))), (q_52, .inl (cA_53, 4, .inr (.inr (.inr (.inr (va_up (va_up (fun _ => none) (0 : Int32).toNatClampNeg (some q_54)) (1 : Int32).toNatClampNeg (some q_59))))))), (q_54, .inr (2, [.int (-1), .int 0, .ref q_57])), (q_57, .inl (cA_58, 60, .inr (.inl (fun _ => 0)))), (q_59, .inr (2, [.int (-1), .int 0, .ref q_62])), (q_62, .inl (cA_63, 60, .inr (.inl (fun _ => 0))))] := hD
  refine lv_dup hx hb dX9_init_130 rfl ?_
  refine lv_iconst (v := 2) hx hb dX9_init_131 (by decide) ?_
  refine va_new (ci := 2) (fs := [.int 0, .int 0, .null]) (C := RX3) (T := TX3) (N := 3) hx hb hts iX9_init_X3 tyX3 tyX3_ok hown (hts (.classLink RX9 47 RX3) (List.mem_of_getElem? (i := 49) rfl)) (hts (.instantiable RX3 3) (List.mem_of_getElem? (i := 50) rfl)) (hts (.initialized RX3) (List.mem_of_getElem? (i := 51) rfl)) hK hP hD hS hA rfl (fun j hj => by rcases (show j = 0 ∨ j = 1 ∨ j = 2 by omega) with rfl | rfl | rfl <;> rfl) (lel 28 38 rfl) (lel 3196 3520 rfl) dX9_init_132 (fun q_64 H hP hD hS => ?_)
  have hP : va_P (dC, dI) vwCl [(h0, .inr (7, [.ref q_1, .ref q_6, .ref q_17, .ref q_20, .ref q_27, .ref q_50, .null, .null, .null, .null])), (q_1, .inr (6, [.ref q_4, .int 0])), (q_4, .inl (cA_5, 1200, .inl (fun _ => 0))), (q_6, .inr (3, [.int 0, .int 0, .int 0, .int 0, .int 0, .ref q_9, .ref q_10, .ref q_11, .ref q_12])), (q_9, .inl (cA_13, 9, .inl (fun _ => 0))), (q_10, .inl (cA_14, 600, .inl (fun _ => 0))), (q_11, .inl (cA_15, 600, .inr (.inl (fun _ => 0)))), (q_12, .inl (cA_16, 600, .inr (.inl (fun _ => 0)))), (q_17, .inr (0, [.ref q_1, .ref q_6, .int 0, .int (-1), .int 0, .int 0, .int 0, .int 0, .int 0])), (q_20, .inr (1, [.int 0, .int 0, .int 0, .int 0, .int 0, .ref q_23, .ref q_24])), (q_23, .inl (cA_25, 0, .inr (.inl (fun _ => 0)))), (q_24, .inl (cA_26, 0, .inl (fun _ => 0))), (q_27, .inl (cA_28, 3, .inr (.inr (.inr (.inr (va_up (va_up (va_up (fun _ => none) (0 : Int32).toNatClampNeg (some q_29)) (1 : Int32).toNatClampNeg (some q_36)) (2 : Int32).toNatClampNeg (some q_43))))))), (q_29, .inr (1, [.int 0, .int 0, .int 0, .int 0, .int 0, .ref q_32, .ref q_33])), (q_32, .inl (cA_34, 0, .inr (.inl (fun _ => 0)))), (q_33, .inl (cA_35, 0, .inl (fun _ => 0))), (q_36, .inr (1, [.int 0, .int 0, .int 0, .int 0, .int 0, .ref q_39, .ref q_40])), (q_39, .inl (cA_41, 0, .inr (.inl (fun _ => 0)))), (q_40, .inl (cA_42, 0, .inl (fun _ => 0))), (q_43, .inr (1, [.int 0, .int 0, .int 0, .int 0, .int 0, .ref q_46, .ref q_47])), (q_46, .inl (cA_48, 0, .inr (.inl (fun _ => 0)))), (q_47, .inl (cA_49, 0, .inl (fun _ => 0))), (q_50, .inl (cA_51, 3, .inl (fun _ => 0))), (q_52, .inl (cA_53, 4, .inr (.inr (.inr (.inr (va_up (va_up (fun _ => none) (0 : Int32).toNatClampNeg (some q_54)) (1 : Int32).toNatClampNeg (some q_59))))))), (q_54, .inr (2, [.int (-1), .int 0, .ref q_57])), (q_57, .inl (cA_58, 60, .inr (.inl (fun _ => 0)))), (q_59, .inr (2, [.int (-1), .int 0, .ref q_62])), (q_62, .inl (cA_63, 60, .inr (.inl (fun _ => 0)))), (q_64, .inr (2, [.int 0, .int 0, .null]))] H := hP
  have hD : va_D A [(h0, .inr (7, [.ref q_1, .ref q_6, .ref q_17, .ref q_20, .ref q_27, .ref q_50, .null, .null, .null, .null])), (q_1, .inr (6, [.ref q_4, .int 0])), (q_4, .inl (cA_5, 1200, .inl (fun _ => 0))), (q_6, .inr (3, [.int 0, .int 0, .int 0, .int 0, .int 0, .ref q_9, .ref q_10, .ref q_11, .ref q_12])), (q_9, .inl (cA_13, 9, .inl (fun _ => 0))), (q_10, .inl (cA_14, 600, .inl (fun _ => 0))), (q_11, .inl (cA_15, 600, .inr (.inl (fun _ => 0)))), (q_12, .inl (cA_16, 600, .inr (.inl (fun _ => 0)))), (q_17, .inr (0, [.ref q_1, .ref q_6, .int 0, .int (-1), .int 0, .int 0, .int 0, .int 0, .int 0])), (q_20, .inr (1, [.int 0, .int 0, .int 0, .int 0, .int 0, .ref q_23, .ref q_24])), (q_23, .inl (cA_25, 0, .inr (.inl (fun _ => 0)))), (q_24, .inl (cA_26, 0, .inl (fun _ => 0))), (q_27, .inl (cA_28, 3, .inr (.inr (.inr (.inr (va_up (va_up (va_up (fun _ => none) (0 : Int32).toNatClampNeg (some q_29)) (1 : Int32).toNatClampNeg (some q_36)) (2 : Int32).toNatClampNeg (some q_43))))))), (q_29, .inr (1, [.int 0, .int 0, .int 0, .int 0, .int 0, .ref q_32, .ref q_33])), (q_32, .inl (cA_34, 0, .inr (.inl (fun _ => 0)))), (q_33, .inl (cA_35, 0, .inl (fun _ => 0))), (q_36, .inr (1, [.int 0, .int 0, .int 0, .int 0, .int 0, .ref q_39, .ref q_40])), (q_39, .inl (cA_41, 0, .inr (.inl (fun _ => 0)))), (q_40, .inl (cA_42, 0, .inl (fun _ => 0))), (q_43, .inr (1, [.int 0, .int 0, .int 0, .int 0, .int 0, .ref q_46, .ref q_47])), (q_46, .inl (cA_48, 0, .inr (.inl (fun _ => 0)))), (q_47, .inl (cA_49, 0, .inl (fun _ => 0))), (q_50, .inl (cA_51, 3, .inl (fun _ => 0))), (q_52, .inl (cA_53, 4, .inr (.inr (.inr (.inr (va_up (va_up (fun _ => none) (0 : Int32).toNatClampNeg (some q_54)) (1 : Int32).toNatClampNeg (some q_59))))))), (q_54, .inr (2, [.int (-1), .int 0, .ref q_57])), (q_57, .inl (cA_58, 60, .inr (.inl (fun _ => 0)))), (q_59, .inr (2, [.int (-1), .int 0, .ref q_62])), (q_62, .inl (cA_63, 60, .inr (.inl (fun _ => 0)))), (q_64, .inr (2, [.int 0, .int 0, .null]))] := hD
  refine W.widen (k := 28) (n := 3196) (lel _ _ rfl) (lel _ _ rfl) ?_
  refine lv_dup hx hb dX9_init_135 rfl ?_
  have hFc := va_free (wc := [(q_64, .inr (2, [.int 0, .int 0, .null]))]) hD hS hA [28] rfl
  refine va_callv (va_runIN (As := []) (rest := [.ref q_64, .int 2, .ref q_52, .ref q_52, .ref h0]) ⟨hx, hb, hml, hown, hts⟩ (kX3_init l dC dI q_64 (H.size)) ⟨va_cnB (host := RX9) 0 hts gX9_init__X3_init_I rfl rfl rfl (hN _ (List.mem_of_getElem? (i := 26) rfl)) (hts (.initialized RX3) (List.mem_of_getElem? (i := 51) rfl)) (by decide +kernel) ⟨lel 2 2 rfl, lel 32 34 rfl⟩, rfl, (hts (.instanceMethod yX3_init) (List.mem_of_getElem? (i := 56) rfl))⟩ ⟨hw_fb, (hw_use hP hD hK hN [28] rfl (by decide) rfl [] rfl)⟩ rfl rfl hl.1 rfl (lv_room (Nat.le_of_ble_eq_true rfl)) dX9_init_136 ⟨lel 29 38 rfl, lel 3256 3520 rfl⟩) hS (fun q _ h => hFc q h) hFc (fun u_66 t H1 locs ht hvm hwr_65 hB hz1 hk1 hS => ?_)
  obtain ⟨q_67, cA_68, hP1, hK1, hD1⟩ := hB
  rw [ht] at hP1
  have hK1 := va_K.moved hvm.symm hK1
  obtain ⟨hP, hD⟩ := va_join (wr := [(h0, .inr (7, [.ref q_1, .ref q_6, .ref q_17, .ref q_20, .ref q_27, .ref q_50, .null, .null, .null, .null])), (q_1, .inr (6, [.ref q_4, .int 0])), (q_4, .inl (cA_5, 1200, .inl (fun _ => 0))), (q_6, .inr (3, [.int 0, .int 0, .int 0, .int 0, .int 0, .ref q_9, .ref q_10, .ref q_11, .ref q_12])), (q_9, .inl (cA_13, 9, .inl (fun _ => 0))), (q_10, .inl (cA_14, 600, .inl (fun _ => 0))), (q_11, .inl (cA_15, 600, .inr (.inl (fun _ => 0)))), (q_12, .inl (cA_16, 600, .inr (.inl (fun _ => 0)))), (q_17, .inr (0, [.ref q_1, .ref q_6, .int 0, .int (-1), .int 0, .int 0, .int 0, .int 0, .int 0])), (q_20, .inr (1, [.int 0, .int 0, .int 0, .int 0, .int 0, .ref q_23, .ref q_24])), (q_23, .inl (cA_25, 0, .inr (.inl (fun _ => 0)))), (q_24, .inl (cA_26, 0, .inl (fun _ => 0))), (q_27, .inl (cA_28, 3, .inr (.inr (.inr (.inr (va_up (va_up (va_up (fun _ => none) (0 : Int32).toNatClampNeg (some q_29)) (1 : Int32).toNatClampNeg (some q_36)) (2 : Int32).toNatClampNeg (some q_43))))))), (q_29, .inr (1, [.int 0, .int 0, .int 0, .int 0, .int 0, .ref q_32, .ref q_33])), (q_32, .inl (cA_34, 0, .inr (.inl (fun _ => 0)))), (q_33, .inl (cA_35, 0, .inl (fun _ => 0))), (q_36, .inr (1, [.int 0, .int 0, .int 0, .int 0, .int 0, .ref q_39, .ref q_40])), (q_39, .inl (cA_41, 0, .inr (.inl (fun _ => 0)))), (q_40, .inl (cA_42, 0, .inl (fun _ => 0))), (q_43, .inr (1, [.int 0, .int 0, .int 0, .int 0, .int 0, .ref q_46, .ref q_47])), (q_46, .inl (cA_48, 0, .inr (.inl (fun _ => 0)))), (q_47, .inl (cA_49, 0, .inl (fun _ => 0))), (q_50, .inl (cA_51, 3, .inl (fun _ => 0))), (q_52, .inl (cA_53, 4, .inr (.inr (.inr (.inr (va_up (va_up (fun _ => none) (0 : Int32).toNatClampNeg (some q_54)) (1 : Int32).toNatClampNeg (some q_59))))))), (q_54, .inr (2, [.int (-1), .int 0, .ref q_57])), (q_57, .inl (cA_58, 60, .inr (.inl (fun _ => 0)))), (q_59, .inr (2, [.int (-1), .int 0, .ref q_62])), (q_62, .inl (cA_63, 60, .inr (.inl (fun _ => 0))))]) (w1 := [(q_64, .inr (2, [.int (-1), .int 0, .ref q_67])), (q_67, .inl (cA_68, 60, .inr (.inl (fun _ => 0))))]) hP hD [28] [0, 1, 2, 3, 4, 5, 6, 7, 8, 9, 10, 11, 12, 13, 14, 15, 16, 17, 18, 19, 20, 21, 22, 23, 24, 25, 26, 27] rfl rfl (by decide) (by decide) hk1 hFc hP1 hD1
  have hK := (hK.sub (tys' := [(cA_5, .byte), (cA_13, .int), (cA_14, .int), (cA_15, .long), (cA_16, .long), (cA_25, .long), (cA_26, .int), (cA_28, .object RX2), (cA_34, .long), (cA_35, .int), (cA_41, .long), (cA_42, .int), (cA_48, .long), (cA_49, .int), (cA_51, .boolean), (cA_53, .object RX3), (cA_58, .long), (cA_63, .long)]) [0, 1, 2, 3, 4, 5, 6, 7, 8, 9, 10, 11, 12, 13, 14, 15, 16, 17] rfl).app hK1
  generalize H1 = H at hP hS ⊢
  have hP : va_P (dC, dI) vwCl [(h0, .inr (7, [.ref q_1, .ref q_6, .ref q_17, .ref q_20, .ref q_27, .ref q_50, .null, .null, .null, .null])), (q_1, .inr (6, [.ref q_4, .int 0])), (q_4, .inl (cA_5, 1200, .inl (fun _ => 0))), (q_6, .inr (3, [.int 0, .int 0, .int 0, .int 0, .int 0, .ref q_9, .ref q_10, .ref q_11, .ref q_12])), (q_9, .inl (cA_13, 9, .inl (fun _ => 0))), (q_10, .inl (cA_14, 600, .inl (fun _ => 0))), (q_11, .inl (cA_15, 600, .inr (.inl (fun _ => 0)))), (q_12, .inl (cA_16, 600, .inr (.inl (fun _ => 0)))), (q_17, .inr (0, [.ref q_1, .ref q_6, .int 0, .int (-1), .int 0, .int 0, .int 0, .int 0, .int 0])), (q_20, .inr (1, [.int 0, .int 0, .int 0, .int 0, .int 0, .ref q_23, .ref q_24])), (q_23, .inl (cA_25, 0, .inr (.inl (fun _ => 0)))), (q_24, .inl (cA_26, 0, .inl (fun _ => 0))), (q_27, .inl (cA_28, 3, .inr (.inr (.inr (.inr (va_up (va_up (va_up (fun _ => none) (0 : Int32).toNatClampNeg (some q_29)) (1 : Int32).toNatClampNeg (some q_36)) (2 : Int32).toNatClampNeg (some q_43))))))), (q_29, .inr (1, [.int 0, .int 0, .int 0, .int 0, .int 0, .ref q_32, .ref q_33])), (q_32, .inl (cA_34, 0, .inr (.inl (fun _ => 0)))), (q_33, .inl (cA_35, 0, .inl (fun _ => 0))), (q_36, .inr (1, [.int 0, .int 0, .int 0, .int 0, .int 0, .ref q_39, .ref q_40])), (q_39, .inl (cA_41, 0, .inr (.inl (fun _ => 0)))), (q_40, .inl (cA_42, 0, .inl (fun _ => 0))), (q_43, .inr (1, [.int 0, .int 0, .int 0, .int 0, .int 0, .ref q_46, .ref q_47])), (q_46, .inl (cA_48, 0, .inr (.inl (fun _ => 0)))), (q_47, .inl (cA_49, 0, .inl (fun _ => 0))), (q_50, .inl (cA_51, 3, .inl (fun _ => 0))), (q_52, .inl (cA_53, 4, .inr (.inr (.inr (.inr (va_up (va_up (fun _ => none) (0 : Int32).toNatClampNeg (some q_54)) (1 : Int32).toNatClampNeg (some q_59))))))), (q_54, .inr (2, [.int (-1), .int 0, .ref q_57])), (q_57, .inl (cA_58, 60, .inr (.inl (fun _ => 0)))), (q_59, .inr (2, [.int (-1), .int 0, .ref q_62])), (q_62, .inl (cA_63, 60, .inr (.inl (fun _ => 0)))), (q_64, .inr (2, [.int (-1), .int 0, .ref q_67])), (q_67, .inl (cA_68, 60, .inr (.inl (fun _ => 0))))] H := hP
  have hD : va_D A [(h0, .inr (7, [.ref q_1, .ref q_6, .ref q_17, .ref q_20, .ref q_27, .ref q_50, .null, .null, .null, .null])), (q_1, .inr (6, [.ref q_4, .int 0])), (q_4, .inl (cA_5, 1200, .inl (fun _ => 0))), (q_6, .inr (3, [.int 0, .int 0, .int 0, .int 0, .int 0, .ref q_9, .ref q_10, .ref q_11, .ref q_12])), (q_9, .inl (cA_13, 9, .inl (fun _ => 0))), (q_10, .inl (cA_14, 600, .inl (fun _ => 0))), (q_11, .inl (cA_15, 600, .inr (.inl (fun _ => 0)))), (q_12, .inl (cA_16, 600, .inr (.inl (fun _ => 0)))), (q_17, .inr (0, [.ref q_1, .ref q_6, .int 0, .int (-1), .int 0, .int 0, .int 0, .int 0, .int 0])), (q_20, .inr (1, [.int 0, .int 0, .int 0, .int 0, .int 0, .ref q_23, .ref q_24])), (q_23, .inl (cA_25, 0, .inr (.inl (fun _ => 0)))), (q_24, .inl (cA_26, 0, .inl (fun _ => 0))), (q_27, .inl (cA_28, 3, .inr (.inr (.inr (.inr (va_up (va_up (va_up (fun _ => none) (0 : Int32).toNatClampNeg (some q_29)) (1 : Int32).toNatClampNeg (some q_36)) (2 : Int32).toNatClampNeg (some q_43))))))), (q_29, .inr (1, [.int 0, .int 0, .int 0, .int 0, .int 0, .ref q_32, .ref q_33])), (q_32, .inl (cA_34, 0, .inr (.inl (fun _ => 0)))), (q_33, .inl (cA_35, 0, .inl (fun _ => 0))), (q_36, .inr (1, [.int 0, .int 0, .int 0, .int 0, .int 0, .ref q_39, .ref q_40])), (q_39, .inl (cA_41, 0, .inr (.inl (fun _ => 0)))), (q_40, .inl (cA_42, 0, .inl (fun _ => 0))), (q_43, .inr (1, [.int 0, .int 0, .int 0, .int 0, .int 0, .ref q_46, .ref q_47])), (q_46, .inl (cA_48, 0, .inr (.inl (fun _ => 0)))), (q_47, .inl (cA_49, 0, .inl (fun _ => 0))), (q_50, .inl (cA_51, 3, .inl (fun _ => 0))), (q_52, .inl (cA_53, 4, .inr (.inr (.inr (.inr (va_up (va_up (fun _ => none) (0 : Int32).toNatClampNeg (some q_54)) (1 : Int32).toNatClampNeg (some q_59))))))), (q_54, .inr (2, [.int (-1), .int 0, .ref q_57])), (q_57, .inl (cA_58, 60, .inr (.inl (fun _ => 0)))), (q_59, .inr (2, [.int (-1), .int 0, .ref q_62])), (q_62, .inl (cA_63, 60, .inr (.inl (fun _ => 0)))), (q_64, .inr (2, [.int (-1), .int 0, .ref q_67])), (q_67, .inl (cA_68, 60, .inr (.inl (fun _ => 0))))] := hD
  have hK : va_K (dC, dI) vwCl [(cA_5, .byte), (cA_13, .int), (cA_14, .int), (cA_15, .long), (cA_16, .long), (cA_25, .long), (cA_26, .int), (cA_28, .object RX2), (cA_34, .long), (cA_35, .int), (cA_41, .long), (cA_42, .int), (cA_48, .long), (cA_49, .int), (cA_51, .boolean), (cA_53, .object RX3), (cA_58, .long), (cA_63, .long), (cA_68, .long)] s := hK
  refine W.widen (k := 29) (n := 3256) (lel _ _ rfl) (lel _ _ rfl) ?_
  refine va_astq hx hb hK hP hD hS 23 15 28 2 rfl rfl rfl rfl (vp_in_lit (by decide)) dX9_init_139 (fun H locs hP hD hS => ?_)
  have hP : va_P (dC, dI) vwCl [(h0, .inr (7, [.ref q_1, .ref q_6, .ref q_17, .ref q_20, .ref q_27, .ref q_50, .null, .null, .null, .null])), (q_1, .inr (6, [.ref q_4, .int 0])), (q_4, .inl (cA_5, 1200, .inl (fun _ => 0))), (q_6, .inr (3, [.int 0, .int 0, .int 0, .int 0, .int 0, .ref q_9, .ref q_10, .ref q_11, .ref q_12])), (q_9, .inl (cA_13, 9, .inl (fun _ => 0))), (q_10, .inl (cA_14, 600, .inl (fun _ => 0))), (q_11, .inl (cA_15, 600, .inr (.inl (fun _ => 0)))), (q_12, .inl (cA_16, 600, .inr (.inl (fun _ => 0)))), (q_17, .inr (0, [.ref q_1, .ref q_6, .int 0, .int (-1), .int 0, .int 0, .int 0, .int 0, .int 0])), (q_20, .inr (1, [.int 0, .int 0, .int 0, .int 0, .int 0, .ref q_23, .ref q_24])), (q_23, .inl (cA_25, 0, .inr (.inl (fun _ => 0)))), (q_24, .inl (cA_26, 0, .inl (fun _ => 0))), (q_27, .inl (cA_28, 3, .inr (.inr (.inr (.inr (va_up (va_up (va_up (fun _ => none) (0 : Int32).toNatClampNeg (some q_29)) (1 : Int32).toNatClampNeg (some q_36)) (2 : Int32).toNatClampNeg (some q_43))))))), (q_29, .inr (1, [.int 0, .int 0, .int 0, .int 0, .int 0, .ref q_32, .ref q_33])), (q_32, .inl (cA_34, 0, .inr (.inl (fun _ => 0)))), (q_33, .inl (cA_35, 0, .inl (fun _ => 0))), (q_36, .inr (1, [.int 0, .int 0, .int 0, .int 0, .int 0, .ref q_39, .ref q_40])), (q_39, .inl (cA_41, 0, .inr (.inl (fun _ => 0)))), (q_40, .inl (cA_42, 0, .inl (fun _ => 0))), (q_43, .inr (1, [.int 0, .int 0, .int 0, .int 0, .int 0, .ref q_46, .ref q_47])), (q_46, .inl (cA_48, 0, .inr (.inl (fun _ => 0)))), (q_47, .inl (cA_49, 0, .inl (fun _ => 0))), (q_50, .inl (cA_51, 3, .inl (fun _ => 0))), (q_52, .inl (cA_53, 4, .inr (.inr (.inr (.inr (va_up (va_up (va_up (fun _ => none) (0 : Int32).toNatClampNeg (some q_54)) (1 : Int32).toNatClampNeg (some q_59)) (2 : Int32).toNatClampNeg (some q_64))))))), (q_54, .inr (2, [.int (-1), .int 0, .ref q_57])), (q_57, .inl (cA_58, 60, .inr (.inl (fun _ => 0)))), (q_59, .inr (2, [.int (-1), .int 0, .ref q_62])), (q_62, .inl (cA_63, 60, .inr (.inl (fun _ => 0)))), (q_64, .inr (2, [.int (-1), .int 0, .ref q_67])), (q_67, .inl (cA_68, 60, .inr (.inl (fun _ => 0))))] H := hP
  have hD : va_D A [(h0, .inr (7, [.ref q_1, .ref q_6, .ref q_17, .ref q_20, .ref q_27, .ref q_50, .null, .null, .null, .null])), (q_1, .inr (6, [.ref q_4, .int 0])), (q_4, .inl (cA_5, 1200, .inl (fun _ => 0))), (q_6, .inr (3, [.int 0, .int 0, .int 0, .int 0, .int 0, .ref q_9, .ref q_10, .ref q_11, .ref q_12])), (q_9, .inl (cA_13, 9, .inl (fun _ => 0))), (q_10, .inl (cA_14, 600, .inl (fun _ => 0))), (q_11, .inl (cA_15, 600, .inr (.inl (fun _ => 0)))), (q_12, .inl (cA_16, 600, .inr (.inl (fun _ => 0)))), (q_17, .inr (0, [.ref q_1, .ref q_6, .int 0, .int (-1), .int 0, .int 0, .int 0, .int 0, .int 0])), (q_20, .inr (1, [.int 0, .int 0, .int 0, .int 0, .int 0, .ref q_23, .ref q_24])), (q_23, .inl (cA_25, 0, .inr (.inl (fun _ => 0)))), (q_24, .inl (cA_26, 0, .inl (fun _ => 0))), (q_27, .inl (cA_28, 3, .inr (.inr (.inr (.inr (va_up (va_up (va_up (fun _ => none) (0 : Int32).toNatClampNeg (some q_29)) (1 : Int32).toNatClampNeg (some q_36)) (2 : Int32).toNatClampNeg (some q_43))))))), (q_29, .inr (1, [.int 0, .int 0, .int 0, .int 0, .int 0, .ref q_32, .ref q_33])), (q_32, .inl (cA_34, 0, .inr (.inl (fun _ => 0)))), (q_33, .inl (cA_35, 0, .inl (fun _ => 0))), (q_36, .inr (1, [.int 0, .int 0, .int 0, .int 0, .int 0, .ref q_39, .ref q_40])), (q_39, .inl (cA_41, 0, .inr (.inl (fun _ => 0)))), (q_40, .inl (cA_42, 0, .inl (fun _ => 0))), (q_43, .inr (1, [.int 0, .int 0, .int 0, .int 0, .int 0, .ref q_46, .ref q_47])), (q_46, .inl (cA_48, 0, .inr (.inl (fun _ => 0)))), (q_47, .inl (cA_49, 0, .inl (fun _ => 0))), (q_50, .inl (cA_51, 3, .inl (fun _ => 0))), (q_52, .inl (cA_53, 4, .inr (.inr (.inr (.inr (va_up (va_up (va_up (fun _ => none) (0 : Int32).toNatClampNeg (some q_54)) (1 : Int32).toNatClampNeg (some q_59)) (2 : Int32).toNatClampNeg (some q_64))))))), (q_54, .inr (2, [.int (-1), .int 0, .ref q_57])), (q_57, .inl (cA_58, 60, .inr (.inl (fun _ => 0)))), (q_59, .inr (2, [.int (-1), .int 0, .ref q_62])), (q_62, .inl (cA_63, 60, .inr (.inl (fun _ => 0)))), (q_64, .inr (2, [.int (-1), .int 0, .ref q_67])), (q_67, .inl (cA_68, 60, .inr (.inl (fun _ => 0))))] := hD
  refine lv_dup hx hb dX9_init_140 rfl ?_
  refine lv_iconst (v := 3) hx hb dX9_init_141 (by decide) ?_
  refine va_new (ci := 2) (fs := [.int 0, .int 0, .null]) (C := RX3) (T := TX3) (N := 3) hx hb hts iX9_init_X3 tyX3 tyX3_ok hown (hts (.classLink RX9 47 RX3) (List.mem_of_getElem? (i := 49) rfl)) (hts (.instantiable RX3 3) (List.mem_of_getElem? (i := 50) rfl)) (hts (.initialized RX3) (List.mem_of_getElem? (i := 51) rfl)) hK hP hD hS hA rfl (fun j hj => by rcases (show j = 0 ∨ j = 1 ∨ j = 2 by omega) with rfl | rfl | rfl <;> rfl) (lel 30 38 rfl) (lel 3259 3520 rfl) dX9_init_142 (fun q_69 H hP hD hS => ?_)
  have hP : va_P (dC, dI) vwCl [(h0, .inr (7, [.ref q_1, .ref q_6, .ref q_17, .ref q_20, .ref q_27, .ref q_50, .null, .null, .null, .null])), (q_1, .inr (6, [.ref q_4, .int 0])), (q_4, .inl (cA_5, 1200, .inl (fun _ => 0))), (q_6, .inr (3, [.int 0, .int 0, .int 0, .int 0, .int 0, .ref q_9, .ref q_10, .ref q_11, .ref q_12])), (q_9, .inl (cA_13, 9, .inl (fun _ => 0))), (q_10, .inl (cA_14, 600, .inl (fun _ => 0))), (q_11, .inl (cA_15, 600, .inr (.inl (fun _ => 0)))), (q_12, .inl (cA_16, 600, .inr (.inl (fun _ => 0)))), (q_17, .inr (0, [.ref q_1, .ref q_6, .int 0, .int (-1), .int 0, .int 0, .int 0, .int 0, .int 0])), (q_20, .inr (1, [.int 0, .int 0, .int 0, .int 0, .int 0, .ref q_23, .ref q_24])), (q_23, .inl (cA_25, 0, .inr (.inl (fun _ => 0)))), (q_24, .inl (cA_26, 0, .inl (fun _ => 0))), (q_27, .inl (cA_28, 3, .inr (.inr (.inr (.inr (va_up (va_up (va_up (fun _ => none) (0 : Int32).toNatClampNeg (some q_29)) (1 : Int32).toNatClampNeg (some q_36)) (2 : Int32).toNatClampNeg (some q_43))))))), (q_29, .inr (1, [.int 0, .int 0, .int 0, .int 0, .int 0, .ref q_32, .ref q_33])), (q_32, .inl (cA_34, 0, .inr (.inl (fun _ => 0)))), (q_33, .inl (cA_35, 0, .inl (fun _ => 0))), (q_36, .inr (1, [.int 0, .int 0, .int 0, .int 0, .int 0, .ref q_39, .ref q_40])), (q_39, .inl (cA_41, 0, .inr (.inl (fun _ => 0)))), (q_40, .inl (cA_42, 0, .inl (fun _ => 0))), (q_43, .inr (1, [.int 0, .int 0, .int 0, .int 0, .int 0, .ref q_46, .ref q_47])), (q_46, .inl (cA_48, 0, .inr (.inl (fun _ => 0)))), (q_47, .inl (cA_49, 0, .inl (fun _ => 0))), (q_50, .inl (cA_51, 3, .inl (fun _ => 0))), (q_52, .inl (cA_53, 4, .inr (.inr (.inr (.inr (va_up (va_up (va_up (fun _ => none) (0 : Int32).toNatClampNeg (some q_54)) (1 : Int32).toNatClampNeg (some q_59)) (2 : Int32).toNatClampNeg (some q_64))))))), (q_54, .inr (2, [.int (-1), .int 0, .ref q_57])), (q_57, .inl (cA_58, 60, .inr (.inl (fun _ => 0)))), (q_59, .inr (2, [.int (-1), .int 0, .ref q_62])), (q_62, .inl (cA_63, 60, .inr (.inl (fun _ => 0)))), (q_64, .inr (2, [.int (-1), .int 0, .ref q_67])), (q_67, .inl (cA_68, 60, .inr (.inl (fun _ => 0)))), (q_69, .inr (2, [.int 0, .int 0, .null]))] H := hP
  have hD : va_D A [(h0, .inr (7, [.ref q_1, .ref q_6, .ref q_17, .ref q_20, .ref q_27, .ref q_50, .null, .null, .null, .null])), (q_1, .inr (6, [.ref q_4, .int 0])), (q_4, .inl (cA_5, 1200, .inl (fun _ => 0))), (q_6, .inr (3, [.int 0, .int 0, .int 0, .int 0, .int 0, .ref q_9, .ref q_10, .ref q_11, .ref q_12])), (q_9, .inl (cA_13, 9, .inl (fun _ => 0))), (q_10, .inl (cA_14, 600, .inl (fun _ => 0))), (q_11, .inl (cA_15, 600, .inr (.inl (fun _ => 0)))), (q_12, .inl (cA_16, 600, .inr (.inl (fun _ => 0)))), (q_17, .inr (0, [.ref q_1, .ref q_6, .int 0, .int (-1), .int 0, .int 0, .int 0, .int 0, .int 0])), (q_20, .inr (1, [.int 0, .int 0, .int 0, .int 0, .int 0, .ref q_23, .ref q_24])), (q_23, .inl (cA_25, 0, .inr (.inl (fun _ => 0)))), (q_24, .inl (cA_26, 0, .inl (fun _ => 0))), (q_27, .inl (cA_28, 3, .inr (.inr (.inr (.inr (va_up (va_up (va_up (fun _ => none) (0 : Int32).toNatClampNeg (some q_29)) (1 : Int32).toNatClampNeg (some q_36)) (2 : Int32).toNatClampNeg (some q_43))))))), (q_29, .inr (1, [.int 0, .int 0, .int 0, .int 0, .int 0, .ref q_32, .ref q_33])), (q_32, .inl (cA_34, 0, .inr (.inl (fun _ => 0)))), (q_33, .inl (cA_35, 0, .inl (fun _ => 0))), (q_36, .inr (1, [.int 0, .int 0, .int 0, .int 0, .int 0, .ref q_39, .ref q_40])), (q_39, .inl (cA_41, 0, .inr (.inl (fun _ => 0)))), (q_40, .inl (cA_42, 0, .inl (fun _ => 0))), (q_43, .inr (1, [.int 0, .int 0, .int 0, .int 0, .int 0, .ref q_46, .ref q_47])), (q_46, .inl (cA_48, 0, .inr (.inl (fun _ => 0)))), (q_47, .inl (cA_49, 0, .inl (fun _ => 0))), (q_50, .inl (cA_51, 3, .inl (fun _ => 0))), (q_52, .inl (cA_53, 4, .inr (.inr (.inr (.inr (va_up (va_up (va_up (fun _ => none) (0 : Int32).toNatClampNeg (some q_54)) (1 : Int32).toNatClampNeg (some q_59)) (2 : Int32).toNatClampNeg (some q_64))))))), (q_54, .inr (2, [.int (-1), .int 0, .ref q_57])), (q_57, .inl (cA_58, 60, .inr (.inl (fun _ => 0)))), (q_59, .inr (2, [.int (-1), .int 0, .ref q_62])), (q_62, .inl (cA_63, 60, .inr (.inl (fun _ => 0)))), (q_64, .inr (2, [.int (-1), .int 0, .ref q_67])), (q_67, .inl (cA_68, 60, .inr (.inl (fun _ => 0)))), (q_69, .inr (2, [.int 0, .int 0, .null]))] := hD
  refine W.widen (k := 30) (n := 3259) (lel _ _ rfl) (lel _ _ rfl) ?_
  refine lv_dup hx hb dX9_init_145 rfl ?_
  have hFc := va_free (wc := [(q_69, .inr (2, [.int 0, .int 0, .null]))]) hD hS hA [30] rfl
  refine va_callv (va_runIN (As := []) (rest := [.ref q_69, .int 3, .ref q_52, .ref q_52, .ref h0]) ⟨hx, hb, hml, hown, hts⟩ (kX3_init l dC dI q_69 (H.size)) ⟨va_cnB (host := RX9) 0 hts gX9_init__X3_init_I rfl rfl rfl (hN _ (List.mem_of_getElem? (i := 26) rfl)) (hts (.initialized RX3) (List.mem_of_getElem? (i := 51) rfl)) (by decide +kernel) ⟨lel 2 2 rfl, lel 32 34 rfl⟩, rfl, (hts (.instanceMethod yX3_init) (List.mem_of_getElem? (i := 56) rfl))⟩ ⟨hw_fb, (hw_use hP hD hK hN [30] rfl (by decide) rfl [] rfl)⟩ rfl rfl hl.1 rfl (lv_room (Nat.le_of_ble_eq_true rfl)) dX9_init_146 ⟨lel 31 38 rfl, lel 3319 3520 rfl⟩) hS (fun q _ h => hFc q h) hFc (fun u_71 t H1 locs ht hvm hwr_70 hB hz1 hk1 hS => ?_)
  obtain ⟨q_72, cA_73, hP1, hK1, hD1⟩ := hB
  rw [ht] at hP1
  have hK1 := va_K.moved hvm.symm hK1
  obtain ⟨hP, hD⟩ := va_join (wr := [(h0, .inr (7, [.ref q_1, .ref q_6, .ref q_17, .ref q_20, .ref q_27, .ref q_50, .null, .null, .null, .null])), (q_1, .inr (6, [.ref q_4, .int 0])), (q_4, .inl (cA_5, 1200, .inl (fun _ => 0))), (q_6, .inr (3, [.int 0, .int 0, .int 0, .int 0, .int 0, .ref q_9, .ref q_10, .ref q_11, .ref q_12])), (q_9, .inl (cA_13, 9, .inl (fun _ => 0))), (q_10, .inl (cA_14, 600, .inl (fun _ => 0))), (q_11, .inl (cA_15, 600, .inr (.inl (fun _ => 0)))), (q_12, .inl (cA_16, 600, .inr (.inl (fun _ => 0)))), (q_17, .inr (0, [.ref q_1, .ref q_6, .int 0, .int (-1), .int 0, .int 0, .int 0, .int 0, .int 0])), (q_20, .inr (1, [.int 0, .int 0, .int 0, .int 0, .int 0, .ref q_23, .ref q_24])), (q_23, .inl (cA_25, 0, .inr (.inl (fun _ => 0)))), (q_24, .inl (cA_26, 0, .inl (fun _ => 0))), (q_27, .inl (cA_28, 3, .inr (.inr (.inr (.inr (va_up (va_up (va_up (fun _ => none) (0 : Int32).toNatClampNeg (some q_29)) (1 : Int32).toNatClampNeg (some q_36)) (2 : Int32).toNatClampNeg (some q_43))))))), (q_29, .inr (1, [.int 0, .int 0, .int 0, .int 0, .int 0, .ref q_32, .ref q_33])), (q_32, .inl (cA_34, 0, .inr (.inl (fun _ => 0)))), (q_33, .inl (cA_35, 0, .inl (fun _ => 0))), (q_36, .inr (1, [.int 0, .int 0, .int 0, .int 0, .int 0, .ref q_39, .ref q_40])), (q_39, .inl (cA_41, 0, .inr (.inl (fun _ => 0)))), (q_40, .inl (cA_42, 0, .inl (fun _ => 0))), (q_43, .inr (1, [.int 0, .int 0, .int 0, .int 0, .int 0, .ref q_46, .ref q_47])), (q_46, .inl (cA_48, 0, .inr (.inl (fun _ => 0)))), (q_47, .inl (cA_49, 0, .inl (fun _ => 0))), (q_50, .inl (cA_51, 3, .inl (fun _ => 0))), (q_52, .inl (cA_53, 4, .inr (.inr (.inr (.inr (va_up (va_up (va_up (fun _ => none) (0 : Int32).toNatClampNeg (some q_54)) (1 : Int32).toNatClampNeg (some q_59)) (2 : Int32).toNatClampNeg (some q_64))))))), (q_54, .inr (2, [.int (-1), .int 0, .ref q_57])), (q_57, .inl (cA_58, 60, .inr (.inl (fun _ => 0)))), (q_59, .inr (2, [.int (-1), .int 0, .ref q_62])), (q_62, .inl (cA_63, 60, .inr (.inl (fun _ => 0)))), (q_64, .inr (2, [.int (-1), .int 0, .ref q_67])), (q_67, .inl (cA_68, 60, .inr (.inl (fun _ => 0))))]) (w1 := [(q_69, .inr (2, [.int (-1), .int 0, .ref q_72])), (q_72, .inl (cA_73, 60, .inr (.inl (fun _ => 0))))]) hP hD [30] [0, 1, 2, 3, 4, 5, 6, 7, 8, 9, 10, 11, 12, 13, 14, 15, 16, 17, 18, 19, 20, 21, 22, 23, 24, 25, 26, 27, 28, 29] rfl rfl (by decide) (by decide) hk1 hFc hP1 hD1
  have hK := (hK.sub (tys' := [(cA_5, .byte), (cA_13, .int), (cA_14, .int), (cA_15, .long), (cA_16, .long), (cA_25, .long), (cA_26, .int), (cA_28, .object RX2), (cA_34, .long), (cA_35, .int), (cA_41, .long), (cA_42, .int), (cA_48, .long), (cA_49, .int), (cA_51, .boolean), (cA_53, .object RX3), (cA_58, .long), (cA_63, .long), (cA_68, .long)]) [0, 1, 2, 3, 4, 5, 6, 7, 8, 9, 10, 11, 12, 13, 14, 15, 16, 17, 18] rfl).app hK1
  generalize H1 = H at hP hS ⊢
  have hP : va_P (dC, dI) vwCl [(h0, .inr (7, [.ref q_1, .ref q_6, .ref q_17, .ref q_20, .ref q_27, .ref q_50, .null, .null, .null, .null])), (q_1, .inr (6, [.ref q_4, .int 0])), (q_4, .inl (cA_5, 1200, .inl (fun _ => 0))), (q_6, .inr (3, [.int 0, .int 0, .int 0, .int 0, .int 0, .ref q_9, .ref q_10, .ref q_11, .ref q_12])), (q_9, .inl (cA_13, 9, .inl (fun _ => 0))), (q_10, .inl (cA_14, 600, .inl (fun _ => 0))), (q_11, .inl (cA_15, 600, .inr (.inl (fun _ => 0)))), (q_12, .inl (cA_16, 600, .inr (.inl (fun _ => 0)))), (q_17, .inr (0, [.ref q_1, .ref q_6, .int 0, .int (-1), .int 0, .int 0, .int 0, .int 0, .int 0])), (q_20, .inr (1, [.int 0, .int 0, .int 0, .int 0, .int 0, .ref q_23, .ref q_24])), (q_23, .inl (cA_25, 0, .inr (.inl (fun _ => 0)))), (q_24, .inl (cA_26, 0, .inl (fun _ => 0))), (q_27, .inl (cA_28, 3, .inr (.inr (.inr (.inr (va_up (va_up (va_up (fun _ => none) (0 : Int32).toNatClampNeg (some q_29)) (1 : Int32).toNatClampNeg (some q_36)) (2 : Int32).toNatClampNeg (some q_43))))))), (q_29, .inr (1, [.int 0, .int 0, .int 0, .int 0, .int 0, .ref q_32, .ref q_33])), (q_32, .inl (cA_34, 0, .inr (.inl (fun _ => 0)))), (q_33, .inl (cA_35, 0, .inl (fun _ => 0))), (q_36, .inr (1, [.int 0, .int 0, .int 0, .int 0, .int 0, .ref q_39, .ref q_40])), (q_39, .inl (cA_41, 0, .inr (.inl (fun _ => 0)))), (q_40, .inl (cA_42, 0, .inl (fun _ => 0))), (q_43, .inr (1, [.int 0, .int 0, .int 0, .int 0, .int 0, .ref q_46, .ref q_47])), (q_46, .inl (cA_48, 0, .inr (.inl (fun _ => 0)))), (q_47, .inl (cA_49, 0, .inl (fun _ => 0))), (q_50, .inl (cA_51, 3, .inl (fun _ => 0))), (q_52, .inl (cA_53, 4, .inr (.inr (.inr (.inr (va_up (va_up (va_up (fun _ => none) (0 : Int32).toNatClampNeg (some q_54)) (1 : Int32).toNatClampNeg (some q_59)) (2 : Int32).toNatClampNeg (some q_64))))))), (q_54, .inr (2, [.int (-1), .int 0, .ref q_57])), (q_57, .inl (cA_58, 60, .inr (.inl (fun _ => 0)))), (q_59, .inr (2, [.int (-1), .int 0, .ref q_62])), (q_62, .inl (cA_63, 60, .inr (.inl (fun _ => 0)))), (q_64, .inr (2, [.int (-1), .int 0, .ref q_67])), (q_67, .inl (cA_68, 60, .inr (.inl (fun _ => 0)))), (q_69, .inr (2, [.int (-1), .int 0, .ref q_72])), (q_72, .inl (cA_73, 60, .inr (.inl (fun _ => 0))))] H := hP
  have hD : va_D A [(h0, .inr (7, [.ref q_1, .ref q_6, .ref q_17, .ref q_20, .ref q_27, .ref q_50, .null, .null, .null, .null])), (q_1, .inr (6, [.ref q_4, .int 0])), (q_4, .inl (cA_5, 1200, .inl (fun _ => 0))), (q_6, .inr (3, [.int 0, .int 0, .int 0, .int 0, .int 0, .ref q_9, .ref q_10, .ref q_11, .ref q_12])), (q_9, .inl (cA_13, 9, .inl (fun _ => 0))), (q_10, .inl (cA_14, 600, .inl (fun _ => 0))), (q_11, .inl (cA_15, 600, .inr (.inl (fun _ => 0)))), (q_12, .inl (cA_16, 600, .inr (.inl (fun _ => 0)))), (q_17, .inr (0, [.ref q_1, .ref q_6, .int 0, .int (-1), .int 0, .int 0, .int 0, .int 0, .int 0])), (q_20, .inr (1, [.int 0, .int 0, .int 0, .int 0, .int 0, .ref q_23, .ref q_24])), (q_23, .inl (cA_25, 0, .inr (.inl (fun _ => 0)))), (q_24, .inl (cA_26, 0, .inl (fun _ => 0))), (q_27, .inl (cA_28, 3, .inr (.inr (.inr (.inr (va_up (va_up (va_up (fun _ => none) (0 : Int32).toNatClampNeg (some q_29)) (1 : Int32).toNatClampNeg (some q_36)) (2 : Int32).toNatClampNeg (some q_43))))))), (q_29, .inr (1, [.int 0, .int 0, .int 0, .int 0, .int 0, .ref q_32, .ref q_33])), (q_32, .inl (cA_34, 0, .inr (.inl (fun _ => 0)))), (q_33, .inl (cA_35, 0, .inl (fun _ => 0))), (q_36, .inr (1, [.int 0, .int 0, .int 0, .int 0, .int 0, .ref q_39, .ref q_40])), (q_39, .inl (cA_41, 0, .inr (.inl (fun _ => 0)))), (q_40, .inl (cA_42, 0, .inl (fun _ => 0))), (q_43, .inr (1, [.int 0, .int 0, .int 0, .int 0, .int 0, .ref q_46, .ref q_47])), (q_46, .inl (cA_48, 0, .inr (.inl (fun _ => 0)))), (q_47, .inl (cA_49, 0, .inl (fun _ => 0))), (q_50, .inl (cA_51, 3, .inl (fun _ => 0))), (q_52, .inl (cA_53, 4, .inr (.inr (.inr (.inr (va_up (va_up (va_up (fun _ => none) (0 : Int32).toNatClampNeg (some q_54)) (1 : Int32).toNatClampNeg (some q_59)) (2 : Int32).toNatClampNeg (some q_64))))))), (q_54, .inr (2, [.int (-1), .int 0, .ref q_57])), (q_57, .inl (cA_58, 60, .inr (.inl (fun _ => 0)))), (q_59, .inr (2, [.int (-1), .int 0, .ref q_62])), (q_62, .inl (cA_63, 60, .inr (.inl (fun _ => 0)))), (q_64, .inr (2, [.int (-1), .int 0, .ref q_67])), (q_67, .inl (cA_68, 60, .inr (.inl (fun _ => 0)))), (q_69, .inr (2, [.int (-1), .int 0, .ref q_72])), (q_72, .inl (cA_73, 60, .inr (.inl (fun _ => 0))))] := hD
  have hK : va_K (dC, dI) vwCl [(cA_5, .byte), (cA_13, .int), (cA_14, .int), (cA_15, .long), (cA_16, .long), (cA_25, .long), (cA_26, .int), (cA_28, .object RX2), (cA_34, .long), (cA_35, .int), (cA_41, .long), (cA_42, .int), (cA_48, .long), (cA_49, .int), (cA_51, .boolean), (cA_53, .object RX3), (cA_58, .long), (cA_63, .long), (cA_68, .long), (cA_73, .long)] s := hK
  refine W.widen (k := 31) (n := 3319) (lel _ _ rfl) (lel _ _ rfl) ?_
  refine va_astq hx hb hK hP hD hS 23 15 30 2 rfl rfl rfl rfl (vp_in_lit (by decide)) dX9_init_149 (fun H locs hP hD hS => ?_)
  have hP : va_P (dC, dI) vwCl [(h0, .inr (7, [.ref q_1, .ref q_6, .ref q_17, .ref q_20, .ref q_27, .ref q_50, .null, .null, .null, .null])), (q_1, .inr (6, [.ref q_4, .int 0])), (q_4, .inl (cA_5, 1200, .inl (fun _ => 0))), (q_6, .inr (3, [.int 0, .int 0, .int 0, .int 0, .int 0, .ref q_9, .ref q_10, .ref q_11, .ref q_12])), (q_9, .inl (cA_13, 9, .inl (fun _ => 0))), (q_10, .inl (cA_14, 600, .inl (fun _ => 0))), (q_11, .inl (cA_15, 600, .inr (.inl (fun _ => 0)))), (q_12, .inl (cA_16, 600, .inr (.inl (fun _ => 0)))), (q_17, .inr (0, [.ref q_1, .ref q_6, .int 0, .int (-1), .int 0, .int 0, .int 0, .int 0, .int 0])), (q_20, .inr (1, [.int 0, .int 0, .int 0, .int 0, .int 0, .ref q_23, .ref q_24])), (q_23, .inl (cA_25, 0, .inr (.inl (fun _ => 0)))), (q_24, .inl (cA_26, 0, .inl (fun _ => 0))), (q_27, .inl (cA_28, 3, .inr (.inr (.inr (.inr (va_up (va_up (va_up (fun _ => none) (0 : Int32).toNatClampNeg (some q_29)) (1 : Int32).toNatClampNeg (some q_36)) (2 : Int32).toNatClampNeg (some q_43))))))), (q_29, .inr (1, [.int 0, .int 0, .int 0, .int 0, .int 0, .ref q_32, .ref q_33])), (q_32, .inl (cA_34, 0, .inr (.inl (fun _ => 0)))), (q_33, .inl (cA_35, 0, .inl (fun _ => 0))), (q_36, .inr (1, [.int 0, .int 0, .int 0, .int 0, .int 0, .ref q_39, .ref q_40])), (q_39, .inl (cA_41, 0, .inr (.inl (fun _ => 0)))), (q_40, .inl (cA_42, 0, .inl (fun _ => 0))), (q_43, .inr (1, [.int 0, .int 0, .int 0, .int 0, .int 0, .ref q_46, .ref q_47])), (q_46, .inl (cA_48, 0, .inr (.inl (fun _ => 0)))), (q_47, .inl (cA_49, 0, .inl (fun _ => 0))), (q_50, .inl (cA_51, 3, .inl (fun _ => 0))), (q_52, .inl (cA_53, 4, .inr (.inr (.inr (.inr (va_up (va_up (va_up (va_up (fun _ => none) (0 : Int32).toNatClampNeg (some q_54)) (1 : Int32).toNatClampNeg (some q_59)) (2 : Int32).toNatClampNeg (some q_64)) (3 : Int32).toNatClampNeg (some q_69))))))), (q_54, .inr (2, [.int (-1), .int 0, .ref q_57])), (q_57, .inl (cA_58, 60, .inr (.inl (fun _ => 0)))), (q_59, .inr (2, [.int (-1), .int 0, .ref q_62])), (q_62, .inl (cA_63, 60, .inr (.inl (fun _ => 0)))), (q_64, .inr (2, [.int (-1), .int 0, .ref q_67])), (q_67, .inl (cA_68, 60, .inr (.inl (fun _ => 0)))), (q_69, .inr (2, [.int (-1), .int 0, .ref q_72])), (q_72, .inl (cA_73, 60, .inr (.inl (fun _ => 0))))] H := hP
  have hD : va_D A [(h0, .inr (7, [.ref q_1, .ref q_6, .ref q_17, .ref q_20, .ref q_27, .ref q_50, .null, .null, .null, .null])), (q_1, .inr (6, [.ref q_4, .int 0])), (q_4, .inl (cA_5, 1200, .inl (fun _ => 0))), (q_6, .inr (3, [.int 0, .int 0, .int 0, .int 0, .int 0, .ref q_9, .ref q_10, .ref q_11, .ref q_12])), (q_9, .inl (cA_13, 9, .inl (fun _ => 0))), (q_10, .inl (cA_14, 600, .inl (fun _ => 0))), (q_11, .inl (cA_15, 600, .inr (.inl (fun _ => 0)))), (q_12, .inl (cA_16, 600, .inr (.inl (fun _ => 0)))), (q_17, .inr (0, [.ref q_1, .ref q_6, .int 0, .int (-1), .int 0, .int 0, .int 0, .int 0, .int 0])), (q_20, .inr (1, [.int 0, .int 0, .int 0, .int 0, .int 0, .ref q_23, .ref q_24])), (q_23, .inl (cA_25, 0, .inr (.inl (fun _ => 0)))), (q_24, .inl (cA_26, 0, .inl (fun _ => 0))), (q_27, .inl (cA_28, 3, .inr (.inr (.inr (.inr (va_up (va_up (va_up (fun _ => none) (0 : Int32).toNatClampNeg (some q_29)) (1 : Int32).toNatClampNeg (some q_36)) (2 : Int32).toNatClampNeg (some q_43))))))), (q_29, .inr (1, [.int 0, .int 0, .int 0, .int 0, .int 0, .ref q_32, .ref q_33])), (q_32, .inl (cA_34, 0, .inr (.inl (fun _ => 0)))), (q_33, .inl (cA_35, 0, .inl (fun _ => 0))), (q_36, .inr (1, [.int 0, .int 0, .int 0, .int 0, .int 0, .ref q_39, .ref q_40])), (q_39, .inl (cA_41, 0, .inr (.inl (fun _ => 0)))), (q_40, .inl (cA_42, 0, .inl (fun _ => 0))), (q_43, .inr (1, [.int 0, .int 0, .int 0, .int 0, .int 0, .ref q_46, .ref q_47])), (q_46, .inl (cA_48, 0, .inr (.inl (fun _ => 0)))), (q_47, .inl (cA_49, 0, .inl (fun _ => 0))), (q_50, .inl (cA_51, 3, .inl (fun _ => 0))), (q_52, .inl (cA_53, 4, .inr (.inr (.inr (.inr (va_up (va_up (va_up (va_up (fun _ => none) (0 : Int32).toNatClampNeg (some q_54)) (1 : Int32).toNatClampNeg (some q_59)) (2 : Int32).toNatClampNeg (some q_64)) (3 : Int32).toNatClampNeg (some q_69))))))), (q_54, .inr (2, [.int (-1), .int 0, .ref q_57])), (q_57, .inl (cA_58, 60, .inr (.inl (fun _ => 0)))), (q_59, .inr (2, [.int (-1), .int 0, .ref q_62])), (q_62, .inl (cA_63, 60, .inr (.inl (fun _ => 0)))), (q_64, .inr (2, [.int (-1), .int 0, .ref q_67])), (q_67, .inl (cA_68, 60, .inr (.inl (fun _ => 0)))), (q_69, .inr (2, [.int (-1), .int 0, .ref q_72])), (q_72, .inl (cA_73, 60, .inr (.inl (fun _ => 0))))] := hD
  refine va_putF (D := (dC, dI)) (ci := 7) (v := .ref q_52) (ty := .array (.object "LuckyTicket$Row")) (C := RX9) (T := TX9) (N := 10) hx hb hts iX9_init_X9 tyX9 tyX9_ok nmX9 hown hK hP hD hS 0 rfl rfl 6 (by decide) (hts (.fieldLink RX9 50 "LuckyTicket" "slots" "[LLuckyTicket$Row;") (List.mem_of_getElem? (i := 57) rfl)) (fun _ h9 => h9) rfl hin rfl (by decide +kernel) rfl rfl (Nat.le_of_ble_eq_true rfl) dX9_init_150 (fun H locs hP hD hS => ?_)
  have hP : va_P (dC, dI) vwCl [(h0, .inr (7, [.ref q_1, .ref q_6, .ref q_17, .ref q_20, .ref q_27, .ref q_50, .ref q_52, .null, .null, .null])), (q_1, .inr (6, [.ref q_4, .int 0])), (q_4, .inl (cA_5, 1200, .inl (fun _ => 0))), (q_6, .inr (3, [.int 0, .int 0, .int 0, .int 0, .int 0, .ref q_9, .ref q_10, .ref q_11, .ref q_12])), (q_9, .inl (cA_13, 9, .inl (fun _ => 0))), (q_10, .inl (cA_14, 600, .inl (fun _ => 0))), (q_11, .inl (cA_15, 600, .inr (.inl (fun _ => 0)))), (q_12, .inl (cA_16, 600, .inr (.inl (fun _ => 0)))), (q_17, .inr (0, [.ref q_1, .ref q_6, .int 0, .int (-1), .int 0, .int 0, .int 0, .int 0, .int 0])), (q_20, .inr (1, [.int 0, .int 0, .int 0, .int 0, .int 0, .ref q_23, .ref q_24])), (q_23, .inl (cA_25, 0, .inr (.inl (fun _ => 0)))), (q_24, .inl (cA_26, 0, .inl (fun _ => 0))), (q_27, .inl (cA_28, 3, .inr (.inr (.inr (.inr (va_up (va_up (va_up (fun _ => none) (0 : Int32).toNatClampNeg (some q_29)) (1 : Int32).toNatClampNeg (some q_36)) (2 : Int32).toNatClampNeg (some q_43))))))), (q_29, .inr (1, [.int 0, .int 0, .int 0, .int 0, .int 0, .ref q_32, .ref q_33])), (q_32, .inl (cA_34, 0, .inr (.inl (fun _ => 0)))), (q_33, .inl (cA_35, 0, .inl (fun _ => 0))), (q_36, .inr (1, [.int 0, .int 0, .int 0, .int 0, .int 0, .ref q_39, .ref q_40])), (q_39, .inl (cA_41, 0, .inr (.inl (fun _ => 0)))), (q_40, .inl (cA_42, 0, .inl (fun _ => 0))), (q_43, .inr (1, [.int 0, .int 0, .int 0, .int 0, .int 0, .ref q_46, .ref q_47])), (q_46, .inl (cA_48, 0, .inr (.inl (fun _ => 0)))), (q_47, .inl (cA_49, 0, .inl (fun _ => 0))), (q_50, .inl (cA_51, 3, .inl (fun _ => 0))), (q_52, .inl (cA_53, 4, .inr (.inr (.inr (.inr (va_up (va_up (va_up (va_up (fun _ => none) (0 : Int32).toNatClampNeg (some q_54)) (1 : Int32).toNatClampNeg (some q_59)) (2 : Int32).toNatClampNeg (some q_64)) (3 : Int32).toNatClampNeg (some q_69))))))), (q_54, .inr (2, [.int (-1), .int 0, .ref q_57])), (q_57, .inl (cA_58, 60, .inr (.inl (fun _ => 0)))), (q_59, .inr (2, [.int (-1), .int 0, .ref q_62])), (q_62, .inl (cA_63, 60, .inr (.inl (fun _ => 0)))), (q_64, .inr (2, [.int (-1), .int 0, .ref q_67])), (q_67, .inl (cA_68, 60, .inr (.inl (fun _ => 0)))), (q_69, .inr (2, [.int (-1), .int 0, .ref q_72])), (q_72, .inl (cA_73, 60, .inr (.inl (fun _ => 0))))] H := hP
  have hD : va_D A [(h0, .inr (7, [.ref q_1, .ref q_6, .ref q_17, .ref q_20, .ref q_27, .ref q_50, .ref q_52, .null, .null, .null])), (q_1, .inr (6, [.ref q_4, .int 0])), (q_4, .inl (cA_5, 1200, .inl (fun _ => 0))), (q_6, .inr (3, [.int 0, .int 0, .int 0, .int 0, .int 0, .ref q_9, .ref q_10, .ref q_11, .ref q_12])), (q_9, .inl (cA_13, 9, .inl (fun _ => 0))), (q_10, .inl (cA_14, 600, .inl (fun _ => 0))), (q_11, .inl (cA_15, 600, .inr (.inl (fun _ => 0)))), (q_12, .inl (cA_16, 600, .inr (.inl (fun _ => 0)))), (q_17, .inr (0, [.ref q_1, .ref q_6, .int 0, .int (-1), .int 0, .int 0, .int 0, .int 0, .int 0])), (q_20, .inr (1, [.int 0, .int 0, .int 0, .int 0, .int 0, .ref q_23, .ref q_24])), (q_23, .inl (cA_25, 0, .inr (.inl (fun _ => 0)))), (q_24, .inl (cA_26, 0, .inl (fun _ => 0))), (q_27, .inl (cA_28, 3, .inr (.inr (.inr (.inr (va_up (va_up (va_up (fun _ => none) (0 : Int32).toNatClampNeg (some q_29)) (1 : Int32).toNatClampNeg (some q_36)) (2 : Int32).toNatClampNeg (some q_43))))))), (q_29, .inr (1, [.int 0, .int 0, .int 0, .int 0, .int 0, .ref q_32, .ref q_33])), (q_32, .inl (cA_34, 0, .inr (.inl (fun _ => 0)))), (q_33, .inl (cA_35, 0, .inl (fun _ => 0))), (q_36, .inr (1, [.int 0, .int 0, .int 0, .int 0, .int 0, .ref q_39, .ref q_40])), (q_39, .inl (cA_41, 0, .inr (.inl (fun _ => 0)))), (q_40, .inl (cA_42, 0, .inl (fun _ => 0))), (q_43, .inr (1, [.int 0, .int 0, .int 0, .int 0, .int 0, .ref q_46, .ref q_47])), (q_46, .inl (cA_48, 0, .inr (.inl (fun _ => 0)))), (q_47, .inl (cA_49, 0, .inl (fun _ => 0))), (q_50, .inl (cA_51, 3, .inl (fun _ => 0))), (q_52, .inl (cA_53, 4, .inr (.inr (.inr (.inr (va_up (va_up (va_up (va_up (fun _ => none) (0 : Int32).toNatClampNeg (some q_54)) (1 : Int32).toNatClampNeg (some q_59)) (2 : Int32).toNatClampNeg (some q_64)) (3 : Int32).toNatClampNeg (some q_69))))))), (q_54, .inr (2, [.int (-1), .int 0, .ref q_57])), (q_57, .inl (cA_58, 60, .inr (.inl (fun _ => 0)))), (q_59, .inr (2, [.int (-1), .int 0, .ref q_62])), (q_62, .inl (cA_63, 60, .inr (.inl (fun _ => 0)))), (q_64, .inr (2, [.int (-1), .int 0, .ref q_67])), (q_67, .inl (cA_68, 60, .inr (.inl (fun _ => 0)))), (q_69, .inr (2, [.int (-1), .int 0, .ref q_72])), (q_72, .inl (cA_73, 60, .inr (.inl (fun _ => 0))))] := hD
  refine lv_aload_n hx hb dX9_init_153 rfl (lv_at hl 0 rfl) ?_
  refine va_new (ci := 4) (fs := [.null, .null, .null]) (C := RX5) (T := TX5) (N := 3) hx hb hts iX9_init_X5 tyX5 tyX5_ok hown (hts (.classLink RX9 54 RX5) (List.mem_of_getElem? (i := 58) rfl)) (hts (.instantiable RX5 3) (List.mem_of_getElem? (i := 59) rfl)) (hts (.initialized RX5) (List.mem_of_getElem? (i := 60) rfl)) hK hP hD hS hA rfl (fun j hj => by rcases (show j = 0 ∨ j = 1 ∨ j = 2 by omega) with rfl | rfl | rfl <;> rfl) (lel 32 38 rfl) (lel 3322 3520 rfl) dX9_init_154 (fun q_74 H hP hD hS => ?_)
  have hP : va_P (dC, dI) vwCl [(h0, .inr (7, [.ref q_1, .ref q_6, .ref q_17, .ref q_20, .ref q_27, .ref q_50, .ref q_52, .null, .null, .null])), (q_1, .inr (6, [.ref q_4, .int 0])), (q_4, .inl (cA_5, 1200, .inl (fun _ => 0))), (q_6, .inr (3, [.int 0, .int 0, .int 0, .int 0, .int 0, .ref q_9, .ref q_10, .ref q_11, .ref q_12])), (q_9, .inl (cA_13, 9, .inl (fun _ => 0))), (q_10, .inl (cA_14, 600, .inl (fun _ => 0))), (q_11, .inl (cA_15, 600, .inr (.inl (fun _ => 0)))), (q_12, .inl (cA_16, 600, .inr (.inl (fun _ => 0)))), (q_17, .inr (0, [.ref q_1, .ref q_6, .int 0, .int (-1), .int 0, .int 0, .int 0, .int 0, .int 0])), (q_20, .inr (1, [.int 0, .int 0, .int 0, .int 0, .int 0, .ref q_23, .ref q_24])), (q_23, .inl (cA_25, 0, .inr (.inl (fun _ => 0)))), (q_24, .inl (cA_26, 0, .inl (fun _ => 0))), (q_27, .inl (cA_28, 3, .inr (.inr (.inr (.inr (va_up (va_up (va_up (fun _ => none) (0 : Int32).toNatClampNeg (some q_29)) (1 : Int32).toNatClampNeg (some q_36)) (2 : Int32).toNatClampNeg (some q_43))))))), (q_29, .inr (1, [.int 0, .int 0, .int 0, .int 0, .int 0, .ref q_32, .ref q_33])), (q_32, .inl (cA_34, 0, .inr (.inl (fun _ => 0)))), (q_33, .inl (cA_35, 0, .inl (fun _ => 0))), (q_36, .inr (1, [.int 0, .int 0, .int 0, .int 0, .int 0, .ref q_39, .ref q_40])), (q_39, .inl (cA_41, 0, .inr (.inl (fun _ => 0)))), (q_40, .inl (cA_42, 0, .inl (fun _ => 0))), (q_43, .inr (1, [.int 0, .int 0, .int 0, .int 0, .int 0, .ref q_46, .ref q_47])), (q_46, .inl (cA_48, 0, .inr (.inl (fun _ => 0)))), (q_47, .inl (cA_49, 0, .inl (fun _ => 0))), (q_50, .inl (cA_51, 3, .inl (fun _ => 0))), (q_52, .inl (cA_53, 4, .inr (.inr (.inr (.inr (va_up (va_up (va_up (va_up (fun _ => none) (0 : Int32).toNatClampNeg (some q_54)) (1 : Int32).toNatClampNeg (some q_59)) (2 : Int32).toNatClampNeg (some q_64)) (3 : Int32).toNatClampNeg (some q_69))))))), (q_54, .inr (2, [.int (-1), .int 0, .ref q_57])), (q_57, .inl (cA_58, 60, .inr (.inl (fun _ => 0)))), (q_59, .inr (2, [.int (-1), .int 0, .ref q_62])), (q_62, .inl (cA_63, 60, .inr (.inl (fun _ => 0)))), (q_64, .inr (2, [.int (-1), .int 0, .ref q_67])), (q_67, .inl (cA_68, 60, .inr (.inl (fun _ => 0)))), (q_69, .inr (2, [.int (-1), .int 0, .ref q_72])), (q_72, .inl (cA_73, 60, .inr (.inl (fun _ => 0)))), (q_74, .inr (4, [.null, .null, .null]))] H := hP
  have hD : va_D A [(h0, .inr (7, [.ref q_1, .ref q_6, .ref q_17, .ref q_20, .ref q_27, .ref q_50, .ref q_52, .null, .null, .null])), (q_1, .inr (6, [.ref q_4, .int 0])), (q_4, .inl (cA_5, 1200, .inl (fun _ => 0))), (q_6, .inr (3, [.int 0, .int 0, .int 0, .int 0, .int 0, .ref q_9, .ref q_10, .ref q_11, .ref q_12])), (q_9, .inl (cA_13, 9, .inl (fun _ => 0))), (q_10, .inl (cA_14, 600, .inl (fun _ => 0))), (q_11, .inl (cA_15, 600, .inr (.inl (fun _ => 0)))), (q_12, .inl (cA_16, 600, .inr (.inl (fun _ => 0)))), (q_17, .inr (0, [.ref q_1, .ref q_6, .int 0, .int (-1), .int 0, .int 0, .int 0, .int 0, .int 0])), (q_20, .inr (1, [.int 0, .int 0, .int 0, .int 0, .int 0, .ref q_23, .ref q_24])), (q_23, .inl (cA_25, 0, .inr (.inl (fun _ => 0)))), (q_24, .inl (cA_26, 0, .inl (fun _ => 0))), (q_27, .inl (cA_28, 3, .inr (.inr (.inr (.inr (va_up (va_up (va_up (fun _ => none) (0 : Int32).toNatClampNeg (some q_29)) (1 : Int32).toNatClampNeg (some q_36)) (2 : Int32).toNatClampNeg (some q_43))))))), (q_29, .inr (1, [.int 0, .int 0, .int 0, .int 0, .int 0, .ref q_32, .ref q_33])), (q_32, .inl (cA_34, 0, .inr (.inl (fun _ => 0)))), (q_33, .inl (cA_35, 0, .inl (fun _ => 0))), (q_36, .inr (1, [.int 0, .int 0, .int 0, .int 0, .int 0, .ref q_39, .ref q_40])), (q_39, .inl (cA_41, 0, .inr (.inl (fun _ => 0)))), (q_40, .inl (cA_42, 0, .inl (fun _ => 0))), (q_43, .inr (1, [.int 0, .int 0, .int 0, .int 0, .int 0, .ref q_46, .ref q_47])), (q_46, .inl (cA_48, 0, .inr (.inl (fun _ => 0)))), (q_47, .inl (cA_49, 0, .inl (fun _ => 0))), (q_50, .inl (cA_51, 3, .inl (fun _ => 0))), (q_52, .inl (cA_53, 4, .inr (.inr (.inr (.inr (va_up (va_up (va_up (va_up (fun _ => none) (0 : Int32).toNatClampNeg (some q_54)) (1 : Int32).toNatClampNeg (some q_59)) (2 : Int32).toNatClampNeg (some q_64)) (3 : Int32).toNatClampNeg (some q_69))))))), (q_54, .inr (2, [.int (-1), .int 0, .ref q_57])), (q_57, .inl (cA_58, 60, .inr (.inl (fun _ => 0)))), (q_59, .inr (2, [.int (-1), .int 0, .ref q_62])), (q_62, .inl (cA_63, 60, .inr (.inl (fun _ => 0)))), (q_64, .inr (2, [.int (-1), .int 0, .ref q_67])), (q_67, .inl (cA_68, 60, .inr (.inl (fun _ => 0)))), (q_69, .inr (2, [.int (-1), .int 0, .ref q_72])), (q_72, .inl (cA_73, 60, .inr (.inl (fun _ => 0)))), (q_74, .inr (4, [.null, .null, .null]))] := hD
  refine W.widen (k := 32) (n := 3322) (lel _ _ rfl) (lel _ _ rfl) ?_
  refine lv_dup hx hb dX9_init_157 rfl ?_
  have hFc := va_free (wc := [(q_74, .inr (4, [.null, .null, .null]))]) hD hS hA [32] rfl
  refine va_callv (va_runIN (As := []) (rest := [.ref q_74, .ref h0]) ⟨hx, hb, hml, hown, hts⟩ (kX5_init l dC dI q_74 (H.size)) ⟨va_cnB (host := RX9) 0 hts gX9_init__X5_init_I rfl rfl rfl (hN _ (List.mem_of_getElem? (i := 27) rfl)) (hts (.initialized RX5) (List.mem_of_getElem? (i := 60) rfl)) (by decide +kernel) ⟨lel 2 2 rfl, lel 32 34 rfl⟩, rfl, (hts (.instanceMethod yX5_init) (List.mem_of_getElem? (i := 66) rfl))⟩ ⟨hw_fb, (hw_use hP hD hK hN [32] rfl (by decide) rfl [] rfl)⟩ rfl rfl hl.1 rfl (lv_room (Nat.le_of_ble_eq_true rfl)) dX9_init_158 ⟨lel 35 38 rfl, lel 3322 3520 rfl⟩) hS (fun q _ h => hFc q h) hFc (fun u_76 t H1 locs ht hvm hwr_75 hB hz1 hk1 hS => ?_)
  obtain ⟨q_77, q_78, q_79, cA_80, cA_81, cA_82, hP1, hK1, hD1⟩ := hB
  rw [ht] at hP1
  have hK1 := va_K.moved hvm.symm hK1
  obtain ⟨hP, hD⟩ := va_join (wr := [(h0, .inr (7, [.ref q_1, .ref q_6, .ref q_17, .ref q_20, .ref q_27, .ref q_50, .ref q_52, .null, .null, .null])), (q_1, .inr (6, [.ref q_4, .int 0])), (q_4, .inl (cA_5, 1200, .inl (fun _ => 0))), (q_6, .inr (3, [.int 0, .int 0, .int 0, .int 0, .int 0, .ref q_9, .ref q_10, .ref q_11, .ref q_12])), (q_9, .inl (cA_13, 9, .inl (fun _ => 0))), (q_10, .inl (cA_14, 600, .inl (fun _ => 0))), (q_11, .inl (cA_15, 600, .inr (.inl (fun _ => 0)))), (q_12, .inl (cA_16, 600, .inr (.inl (fun _ => 0)))), (q_17, .inr (0, [.ref q_1, .ref q_6, .int 0, .int (-1), .int 0, .int 0, .int 0, .int 0, .int 0])), (q_20, .inr (1, [.int 0, .int 0, .int 0, .int 0, .int 0, .ref q_23, .ref q_24])), (q_23, .inl (cA_25, 0, .inr (.inl (fun _ => 0)))), (q_24, .inl (cA_26, 0, .inl (fun _ => 0))), (q_27, .inl (cA_28, 3, .inr (.inr (.inr (.inr (va_up (va_up (va_up (fun _ => none) (0 : Int32).toNatClampNeg (some q_29)) (1 : Int32).toNatClampNeg (some q_36)) (2 : Int32).toNatClampNeg (some q_43))))))), (q_29, .inr (1, [.int 0, .int 0, .int 0, .int 0, .int 0, .ref q_32, .ref q_33])), (q_32, .inl (cA_34, 0, .inr (.inl (fun _ => 0)))), (q_33, .inl (cA_35, 0, .inl (fun _ => 0))), (q_36, .inr (1, [.int 0, .int 0, .int 0, .int 0, .int 0, .ref q_39, .ref q_40])), (q_39, .inl (cA_41, 0, .inr (.inl (fun _ => 0)))), (q_40, .inl (cA_42, 0, .inl (fun _ => 0))), (q_43, .inr (1, [.int 0, .int 0, .int 0, .int 0, .int 0, .ref q_46, .ref q_47])), (q_46, .inl (cA_48, 0, .inr (.inl (fun _ => 0)))), (q_47, .inl (cA_49, 0, .inl (fun _ => 0))), (q_50, .inl (cA_51, 3, .inl (fun _ => 0))), (q_52, .inl (cA_53, 4, .inr (.inr (.inr (.inr (va_up (va_up (va_up (va_up (fun _ => none) (0 : Int32).toNatClampNeg (some q_54)) (1 : Int32).toNatClampNeg (some q_59)) (2 : Int32).toNatClampNeg (some q_64)) (3 : Int32).toNatClampNeg (some q_69))))))), (q_54, .inr (2, [.int (-1), .int 0, .ref q_57])), (q_57, .inl (cA_58, 60, .inr (.inl (fun _ => 0)))), (q_59, .inr (2, [.int (-1), .int 0, .ref q_62])), (q_62, .inl (cA_63, 60, .inr (.inl (fun _ => 0)))), (q_64, .inr (2, [.int (-1), .int 0, .ref q_67])), (q_67, .inl (cA_68, 60, .inr (.inl (fun _ => 0)))), (q_69, .inr (2, [.int (-1), .int 0, .ref q_72])), (q_72, .inl (cA_73, 60, .inr (.inl (fun _ => 0))))]) (w1 := [(q_74, .inr (4, [.ref q_77, .ref q_78, .ref q_79])), (q_77, .inl (cA_80, 0, .inl (fun _ => 0))), (q_78, .inl (cA_81, 0, .inl (fun _ => 0))), (q_79, .inl (cA_82, 0, .inl (fun _ => 0)))]) hP hD [32] [0, 1, 2, 3, 4, 5, 6, 7, 8, 9, 10, 11, 12, 13, 14, 15, 16, 17, 18, 19, 20, 21, 22, 23, 24, 25, 26, 27, 28, 29, 30, 31] rfl rfl (by decide) (by decide) hk1 hFc hP1 hD1
  have hK := (hK.sub (tys' := [(cA_5, .byte), (cA_13, .int), (cA_14, .int), (cA_15, .long), (cA_16, .long), (cA_25, .long), (cA_26, .int), (cA_28, .object RX2), (cA_34, .long), (cA_35, .int), (cA_41, .long), (cA_42, .int), (cA_48, .long), (cA_49, .int), (cA_51, .boolean), (cA_53, .object RX3), (cA_58, .long), (cA_63, .long), (cA_68, .long), (cA_73, .long)]) [0, 1, 2, 3, 4, 5, 6, 7, 8, 9, 10, 11, 12, 13, 14, 15, 16, 17, 18, 19] rfl).app hK1
  generalize H1 = H at hP hS ⊢
  have hP : va_P (dC, dI) vwCl [(h0, .inr (7, [.ref q_1, .ref q_6, .ref q_17, .ref q_20, .ref q_27, .ref q_50, .ref q_52, .null, .null, .null])), (q_1, .inr (6, [.ref q_4, .int 0])), (q_4, .inl (cA_5, 1200, .inl (fun _ => 0))), (q_6, .inr (3, [.int 0, .int 0, .int 0, .int 0, .int 0, .ref q_9, .ref q_10, .ref q_11, .ref q_12])), (q_9, .inl (cA_13, 9, .inl (fun _ => 0))), (q_10, .inl (cA_14, 600, .inl (fun _ => 0))), (q_11, .inl (cA_15, 600, .inr (.inl (fun _ => 0)))), (q_12, .inl (cA_16, 600, .inr (.inl (fun _ => 0)))), (q_17, .inr (0, [.ref q_1, .ref q_6, .int 0, .int (-1), .int 0, .int 0, .int 0, .int 0, .int 0])), (q_20, .inr (1, [.int 0, .int 0, .int 0, .int 0, .int 0, .ref q_23, .ref q_24])), (q_23, .inl (cA_25, 0, .inr (.inl (fun _ => 0)))), (q_24, .inl (cA_26, 0, .inl (fun _ => 0))), (q_27, .inl (cA_28, 3, .inr (.inr (.inr (.inr (va_up (va_up (va_up (fun _ => none) (0 : Int32).toNatClampNeg (some q_29)) (1 : Int32).toNatClampNeg (some q_36)) (2 : Int32).toNatClampNeg (some q_43))))))), (q_29, .inr (1, [.int 0, .int 0, .int 0, .int 0, .int 0, .ref q_32, .ref q_33])), (q_32, .inl (cA_34, 0, .inr (.inl (fun _ => 0)))), (q_33, .inl (cA_35, 0, .inl (fun _ => 0))), (q_36, .inr (1, [.int 0, .int 0, .int 0, .int 0, .int 0, .ref q_39, .ref q_40])), (q_39, .inl (cA_41, 0, .inr (.inl (fun _ => 0)))), (q_40, .inl (cA_42, 0, .inl (fun _ => 0))), (q_43, .inr (1, [.int 0, .int 0, .int 0, .int 0, .int 0, .ref q_46, .ref q_47])), (q_46, .inl (cA_48, 0, .inr (.inl (fun _ => 0)))), (q_47, .inl (cA_49, 0, .inl (fun _ => 0))), (q_50, .inl (cA_51, 3, .inl (fun _ => 0))), (q_52, .inl (cA_53, 4, .inr (.inr (.inr (.inr (va_up (va_up (va_up (va_up (fun _ => none) (0 : Int32).toNatClampNeg (some q_54)) (1 : Int32).toNatClampNeg (some q_59)) (2 : Int32).toNatClampNeg (some q_64)) (3 : Int32).toNatClampNeg (some q_69))))))), (q_54, .inr (2, [.int (-1), .int 0, .ref q_57])), (q_57, .inl (cA_58, 60, .inr (.inl (fun _ => 0)))), (q_59, .inr (2, [.int (-1), .int 0, .ref q_62])), (q_62, .inl (cA_63, 60, .inr (.inl (fun _ => 0)))), (q_64, .inr (2, [.int (-1), .int 0, .ref q_67])), (q_67, .inl (cA_68, 60, .inr (.inl (fun _ => 0)))), (q_69, .inr (2, [.int (-1), .int 0, .ref q_72])), (q_72, .inl (cA_73, 60, .inr (.inl (fun _ => 0)))), (q_74, .inr (4, [.ref q_77, .ref q_78, .ref q_79])), (q_77, .inl (cA_80, 0, .inl (fun _ => 0))), (q_78, .inl (cA_81, 0, .inl (fun _ => 0))), (q_79, .inl (cA_82, 0, .inl (fun _ => 0)))] H := hP
  have hD : va_D A [(h0, .inr (7, [.ref q_1, .ref q_6, .ref q_17, .ref q_20, .ref q_27, .ref q_50, .ref q_52, .null, .null, .null])), (q_1, .inr (6, [.ref q_4, .int 0])), (q_4, .inl (cA_5, 1200, .inl (fun _ => 0))), (q_6, .inr (3, [.int 0, .int 0, .int 0, .int 0, .int 0, .ref q_9, .ref q_10, .ref q_11, .ref q_12])), (q_9, .inl (cA_13, 9, .inl (fun _ => 0))), (q_10, .inl (cA_14, 600, .inl (fun _ => 0))), (q_11, .inl (cA_15, 600, .inr (.inl (fun _ => 0)))), (q_12, .inl (cA_16, 600, .inr (.inl (fun _ => 0)))), (q_17, .inr (0, [.ref q_1, .ref q_6, .int 0, .int (-1), .int 0, .int 0, .int 0, .int 0, .int 0])), (q_20, .inr (1, [.int 0, .int 0, .int 0, .int 0, .int 0, .ref q_23, .ref q_24])), (q_23, .inl (cA_25, 0, .inr (.inl (fun _ => 0)))), (q_24, .inl (cA_26, 0, .inl (fun _ => 0))), (q_27, .inl (cA_28, 3, .inr (.inr (.inr (.inr (va_up (va_up (va_up (fun _ => none) (0 : Int32).toNatClampNeg (some q_29)) (1 : Int32).toNatClampNeg (some q_36)) (2 : Int32).toNatClampNeg (some q_43))))))), (q_29, .inr (1, [.int 0, .int 0, .int 0, .int 0, .int 0, .ref q_32, .ref q_33])), (q_32, .inl (cA_34, 0, .inr (.inl (fun _ => 0)))), (q_33, .inl (cA_35, 0, .inl (fun _ => 0))), (q_36, .inr (1, [.int 0, .int 0, .int 0, .int 0, .int 0, .ref q_39, .ref q_40])), (q_39, .inl (cA_41, 0, .inr (.inl (fun _ => 0)))), (q_40, .inl (cA_42, 0, .inl (fun _ => 0))), (q_43, .inr (1, [.int 0, .int 0, .int 0, .int 0, .int 0, .ref q_46, .ref q_47])), (q_46, .inl (cA_48, 0, .inr (.inl (fun _ => 0)))), (q_47, .inl (cA_49, 0, .inl (fun _ => 0))), (q_50, .inl (cA_51, 3, .inl (fun _ => 0))), (q_52, .inl (cA_53, 4, .inr (.inr (.inr (.inr (va_up (va_up (va_up (va_up (fun _ => none) (0 : Int32).toNatClampNeg (some q_54)) (1 : Int32).toNatClampNeg (some q_59)) (2 : Int32).toNatClampNeg (some q_64)) (3 : Int32).toNatClampNeg (some q_69))))))), (q_54, .inr (2, [.int (-1), .int 0, .ref q_57])), (q_57, .inl (cA_58, 60, .inr (.inl (fun _ => 0)))), (q_59, .inr (2, [.int (-1), .int 0, .ref q_62])), (q_62, .inl (cA_63, 60, .inr (.inl (fun _ => 0)))), (q_64, .inr (2, [.int (-1), .int 0, .ref q_67])), (q_67, .inl (cA_68, 60, .inr (.inl (fun _ => 0)))), (q_69, .inr (2, [.int (-1), .int 0, .ref q_72])), (q_72, .inl (cA_73, 60, .inr (.inl (fun _ => 0)))), (q_74, .inr (4, [.ref q_77, .ref q_78, .ref q_79])), (q_77, .inl (cA_80, 0, .inl (fun _ => 0))), (q_78, .inl (cA_81, 0, .inl (fun _ => 0))), (q_79, .inl (cA_82, 0, .inl (fun _ => 0)))] := hD
  have hK : va_K (dC, dI) vwCl [(cA_5, .byte), (cA_13, .int), (cA_14, .int), (cA_15, .long), (cA_16, .long), (cA_25, .long), (cA_26, .int), (cA_28, .object RX2), (cA_34, .long), (cA_35, .int), (cA_41, .long), (cA_42, .int), (cA_48, .long), (cA_49, .int), (cA_51, .boolean), (cA_53, .object RX3), (cA_58, .long), (cA_63, .long), (cA_68, .long), (cA_73, .long), (cA_80, .int), (cA_81, .int), (cA_82, .byte)] s := hK
  refine W.widen (k := 35) (n := 3322) (lel _ _ rfl) (lel _ _ rfl) ?_
  refine va_putF (D := (dC, dI)) (ci := 7) (v := .ref q_74) (ty := .object "LuckyTicket$Search") (C := RX9) (T := TX9) (N := 10) hx hb hts iX9_init_X9 tyX9 tyX9_ok nmX9 hown hK hP hD hS 0 rfl rfl 7 (by decide) (hts (.fieldLink RX9 57 "LuckyTicket" "search" "LLuckyTicket$Search;") (List.mem_of_getElem? (i := 67) rfl)) (fun _ h9 => h9) rfl hin rfl (by decide +kernel) rfl rfl (Nat.le_of_ble_eq_true rfl) dX9_init_161 (fun H locs hP hD hS => ?_)
  have hP : va_P (dC, dI) vwCl [(h0, .inr (7, [.ref q_1, .ref q_6, .ref q_17, .ref q_20, .ref q_27, .ref q_50, .ref q_52, .ref q_74, .null, .null])), (q_1, .inr (6, [.ref q_4, .int 0])), (q_4, .inl (cA_5, 1200, .inl (fun _ => 0))), (q_6, .inr (3, [.int 0, .int 0, .int 0, .int 0, .int 0, .ref q_9, .ref q_10, .ref q_11, .ref q_12])), (q_9, .inl (cA_13, 9, .inl (fun _ => 0))), (q_10, .inl (cA_14, 600, .inl (fun _ => 0))), (q_11, .inl (cA_15, 600, .inr (.inl (fun _ => 0)))), (q_12, .inl (cA_16, 600, .inr (.inl (fun _ => 0)))), (q_17, .inr (0, [.ref q_1, .ref q_6, .int 0, .int (-1), .int 0, .int 0, .int 0, .int 0, .int 0])), (q_20, .inr (1, [.int 0, .int 0, .int 0, .int 0, .int 0, .ref q_23, .ref q_24])), (q_23, .inl (cA_25, 0, .inr (.inl (fun _ => 0)))), (q_24, .inl (cA_26, 0, .inl (fun _ => 0))), (q_27, .inl (cA_28, 3, .inr (.inr (.inr (.inr (va_up (va_up (va_up (fun _ => none) (0 : Int32).toNatClampNeg (some q_29)) (1 : Int32).toNatClampNeg (some q_36)) (2 : Int32).toNatClampNeg (some q_43))))))), (q_29, .inr (1, [.int 0, .int 0, .int 0, .int 0, .int 0, .ref q_32, .ref q_33])), (q_32, .inl (cA_34, 0, .inr (.inl (fun _ => 0)))), (q_33, .inl (cA_35, 0, .inl (fun _ => 0))), (q_36, .inr (1, [.int 0, .int 0, .int 0, .int 0, .int 0, .ref q_39, .ref q_40])), (q_39, .inl (cA_41, 0, .inr (.inl (fun _ => 0)))), (q_40, .inl (cA_42, 0, .inl (fun _ => 0))), (q_43, .inr (1, [.int 0, .int 0, .int 0, .int 0, .int 0, .ref q_46, .ref q_47])), (q_46, .inl (cA_48, 0, .inr (.inl (fun _ => 0)))), (q_47, .inl (cA_49, 0, .inl (fun _ => 0))), (q_50, .inl (cA_51, 3, .inl (fun _ => 0))), (q_52, .inl (cA_53, 4, .inr (.inr (.inr (.inr (va_up (va_up (va_up (va_up (fun _ => none) (0 : Int32).toNatClampNeg (some q_54)) (1 : Int32).toNatClampNeg (some q_59)) (2 : Int32).toNatClampNeg (some q_64)) (3 : Int32).toNatClampNeg (some q_69))))))), (q_54, .inr (2, [.int (-1), .int 0, .ref q_57])), (q_57, .inl (cA_58, 60, .inr (.inl (fun _ => 0)))), (q_59, .inr (2, [.int (-1), .int 0, .ref q_62])), (q_62, .inl (cA_63, 60, .inr (.inl (fun _ => 0)))), (q_64, .inr (2, [.int (-1), .int 0, .ref q_67])), (q_67, .inl (cA_68, 60, .inr (.inl (fun _ => 0)))), (q_69, .inr (2, [.int (-1), .int 0, .ref q_72])), (q_72, .inl (cA_73, 60, .inr (.inl (fun _ => 0)))), (q_74, .inr (4, [.ref q_77, .ref q_78, .ref q_79])), (q_77, .inl (cA_80, 0, .inl (fun _ => 0))), (q_78, .inl (cA_81, 0, .inl (fun _ => 0))), (q_79, .inl (cA_82, 0, .inl (fun _ => 0)))] H := hP
  have hD : va_D A [(h0, .inr (7, [.ref q_1, .ref q_6, .ref q_17, .ref q_20, .ref q_27, .ref q_50, .ref q_52, .ref q_74, .null, .null])), (q_1, .inr (6, [.ref q_4, .int 0])), (q_4, .inl (cA_5, 1200, .inl (fun _ => 0))), (q_6, .inr (3, [.int 0, .int 0, .int 0, .int 0, .int 0, .ref q_9, .ref q_10, .ref q_11, .ref q_12])), (q_9, .inl (cA_13, 9, .inl (fun _ => 0))), (q_10, .inl (cA_14, 600, .inl (fun _ => 0))), (q_11, .inl (cA_15, 600, .inr (.inl (fun _ => 0)))), (q_12, .inl (cA_16, 600, .inr (.inl (fun _ => 0)))), (q_17, .inr (0, [.ref q_1, .ref q_6, .int 0, .int (-1), .int 0, .int 0, .int 0, .int 0, .int 0])), (q_20, .inr (1, [.int 0, .int 0, .int 0, .int 0, .int 0, .ref q_23, .ref q_24])), (q_23, .inl (cA_25, 0, .inr (.inl (fun _ => 0)))), (q_24, .inl (cA_26, 0, .inl (fun _ => 0))), (q_27, .inl (cA_28, 3, .inr (.inr (.inr (.inr (va_up (va_up (va_up (fun _ => none) (0 : Int32).toNatClampNeg (some q_29)) (1 : Int32).toNatClampNeg (some q_36)) (2 : Int32).toNatClampNeg (some q_43))))))), (q_29, .inr (1, [.int 0, .int 0, .int 0, .int 0, .int 0, .ref q_32, .ref q_33])), (q_32, .inl (cA_34, 0, .inr (.inl (fun _ => 0)))), (q_33, .inl (cA_35, 0, .inl (fun _ => 0))), (q_36, .inr (1, [.int 0, .int 0, .int 0, .int 0, .int 0, .ref q_39, .ref q_40])), (q_39, .inl (cA_41, 0, .inr (.inl (fun _ => 0)))), (q_40, .inl (cA_42, 0, .inl (fun _ => 0))), (q_43, .inr (1, [.int 0, .int 0, .int 0, .int 0, .int 0, .ref q_46, .ref q_47])), (q_46, .inl (cA_48, 0, .inr (.inl (fun _ => 0)))), (q_47, .inl (cA_49, 0, .inl (fun _ => 0))), (q_50, .inl (cA_51, 3, .inl (fun _ => 0))), (q_52, .inl (cA_53, 4, .inr (.inr (.inr (.inr (va_up (va_up (va_up (va_up (fun _ => none) (0 : Int32).toNatClampNeg (some q_54)) (1 : Int32).toNatClampNeg (some q_59)) (2 : Int32).toNatClampNeg (some q_64)) (3 : Int32).toNatClampNeg (some q_69))))))), (q_54, .inr (2, [.int (-1), .int 0, .ref q_57])), (q_57, .inl (cA_58, 60, .inr (.inl (fun _ => 0)))), (q_59, .inr (2, [.int (-1), .int 0, .ref q_62])), (q_62, .inl (cA_63, 60, .inr (.inl (fun _ => 0)))), (q_64, .inr (2, [.int (-1), .int 0, .ref q_67])), (q_67, .inl (cA_68, 60, .inr (.inl (fun _ => 0)))), (q_69, .inr (2, [.int (-1), .int 0, .ref q_72])), (q_72, .inl (cA_73, 60, .inr (.inl (fun _ => 0)))), (q_74, .inr (4, [.ref q_77, .ref q_78, .ref q_79])), (q_77, .inl (cA_80, 0, .inl (fun _ => 0))), (q_78, .inl (cA_81, 0, .inl (fun _ => 0))), (q_79, .inl (cA_82, 0, .inl (fun _ => 0)))] := hD
  refine lv_aload_n hx hb dX9_init_164 rfl (lv_at hl 0 rfl) ?_
  refine va_new (ci := 5) (fs := [.null]) (C := RX6) (T := TX6) (N := 1) hx hb hts iX9_init_X6 tyX6 tyX6_ok hown (hts (.classLink RX9 61 RX6) (List.mem_of_getElem? (i := 68) rfl)) (hts (.instantiable RX6 1) (List.mem_of_getElem? (i := 69) rfl)) (hts (.initialized RX6) (List.mem_of_getElem? (i := 70) rfl)) hK hP hD hS hA rfl (fun j hj => by rcases (show j = 0 by omega) with rfl <;> rfl) (lel 36 38 rfl) (lel 3323 3520 rfl) dX9_init_165 (fun q_83 H hP hD hS => ?_)
  have hP : va_P (dC, dI) vwCl [(h0, .inr (7, [.ref q_1, .ref q_6, .ref q_17, .ref q_20, .ref q_27, .ref q_50, .ref q_52, .ref q_74, .null, .null])), (q_1, .inr (6, [.ref q_4, .int 0])), (q_4, .inl (cA_5, 1200, .inl (fun _ => 0))), (q_6, .inr (3, [.int 0, .int 0, .int 0, .int 0, .int 0, .ref q_9, .ref q_10, .ref q_11, .ref q_12])), (q_9, .inl (cA_13, 9, .inl (fun _ => 0))), (q_10, .inl (cA_14, 600, .inl (fun _ => 0))), (q_11, .inl (cA_15, 600, .inr (.inl (fun _ => 0)))), (q_12, .inl (cA_16, 600, .inr (.inl (fun _ => 0)))), (q_17, .inr (0, [.ref q_1, .ref q_6, .int 0, .int (-1), .int 0, .int 0, .int 0, .int 0, .int 0])), (q_20, .inr (1, [.int 0, .int 0, .int 0, .int 0, .int 0, .ref q_23, .ref q_24])), (q_23, .inl (cA_25, 0, .inr (.inl (fun _ => 0)))), (q_24, .inl (cA_26, 0, .inl (fun _ => 0))), (q_27, .inl (cA_28, 3, .inr (.inr (.inr (.inr (va_up (va_up (va_up (fun _ => none) (0 : Int32).toNatClampNeg (some q_29)) (1 : Int32).toNatClampNeg (some q_36)) (2 : Int32).toNatClampNeg (some q_43))))))), (q_29, .inr (1, [.int 0, .int 0, .int 0, .int 0, .int 0, .ref q_32, .ref q_33])), (q_32, .inl (cA_34, 0, .inr (.inl (fun _ => 0)))), (q_33, .inl (cA_35, 0, .inl (fun _ => 0))), (q_36, .inr (1, [.int 0, .int 0, .int 0, .int 0, .int 0, .ref q_39, .ref q_40])), (q_39, .inl (cA_41, 0, .inr (.inl (fun _ => 0)))), (q_40, .inl (cA_42, 0, .inl (fun _ => 0))), (q_43, .inr (1, [.int 0, .int 0, .int 0, .int 0, .int 0, .ref q_46, .ref q_47])), (q_46, .inl (cA_48, 0, .inr (.inl (fun _ => 0)))), (q_47, .inl (cA_49, 0, .inl (fun _ => 0))), (q_50, .inl (cA_51, 3, .inl (fun _ => 0))), (q_52, .inl (cA_53, 4, .inr (.inr (.inr (.inr (va_up (va_up (va_up (va_up (fun _ => none) (0 : Int32).toNatClampNeg (some q_54)) (1 : Int32).toNatClampNeg (some q_59)) (2 : Int32).toNatClampNeg (some q_64)) (3 : Int32).toNatClampNeg (some q_69))))))), (q_54, .inr (2, [.int (-1), .int 0, .ref q_57])), (q_57, .inl (cA_58, 60, .inr (.inl (fun _ => 0)))), (q_59, .inr (2, [.int (-1), .int 0, .ref q_62])), (q_62, .inl (cA_63, 60, .inr (.inl (fun _ => 0)))), (q_64, .inr (2, [.int (-1), .int 0, .ref q_67])), (q_67, .inl (cA_68, 60, .inr (.inl (fun _ => 0)))), (q_69, .inr (2, [.int (-1), .int 0, .ref q_72])), (q_72, .inl (cA_73, 60, .inr (.inl (fun _ => 0)))), (q_74, .inr (4, [.ref q_77, .ref q_78, .ref q_79])), (q_77, .inl (cA_80, 0, .inl (fun _ => 0))), (q_78, .inl (cA_81, 0, .inl (fun _ => 0))), (q_79, .inl (cA_82, 0, .inl (fun _ => 0))), (q_83, .inr (5, [.null]))] H := hP
  have hD : va_D A [(h0, .inr (7, [.ref q_1, .ref q_6, .ref q_17, .ref q_20, .ref q_27, .ref q_50, .ref q_52, .ref q_74, .null, .null])), (q_1, .inr (6, [.ref q_4, .int 0])), (q_4, .inl (cA_5, 1200, .inl (fun _ => 0))), (q_6, .inr (3, [.int 0, .int 0, .int 0, .int 0, .int 0, .ref q_9, .ref q_10, .ref q_11, .ref q_12])), (q_9, .inl (cA_13, 9, .inl (fun _ => 0))), (q_10, .inl (cA_14, 600, .inl (fun _ => 0))), (q_11, .inl (cA_15, 600, .inr (.inl (fun _ => 0)))), (q_12, .inl (cA_16, 600, .inr (.inl (fun _ => 0)))), (q_17, .inr (0, [.ref q_1, .ref q_6, .int 0, .int (-1), .int 0, .int 0, .int 0, .int 0, .int 0])), (q_20, .inr (1, [.int 0, .int 0, .int 0, .int 0, .int 0, .ref q_23, .ref q_24])), (q_23, .inl (cA_25, 0, .inr (.inl (fun _ => 0)))), (q_24, .inl (cA_26, 0, .inl (fun _ => 0))), (q_27, .inl (cA_28, 3, .inr (.inr (.inr (.inr (va_up (va_up (va_up (fun _ => none) (0 : Int32).toNatClampNeg (some q_29)) (1 : Int32).toNatClampNeg (some q_36)) (2 : Int32).toNatClampNeg (some q_43))))))), (q_29, .inr (1, [.int 0, .int 0, .int 0, .int 0, .int 0, .ref q_32, .ref q_33])), (q_32, .inl (cA_34, 0, .inr (.inl (fun _ => 0)))), (q_33, .inl (cA_35, 0, .inl (fun _ => 0))), (q_36, .inr (1, [.int 0, .int 0, .int 0, .int 0, .int 0, .ref q_39, .ref q_40])), (q_39, .inl (cA_41, 0, .inr (.inl (fun _ => 0)))), (q_40, .inl (cA_42, 0, .inl (fun _ => 0))), (q_43, .inr (1, [.int 0, .int 0, .int 0, .int 0, .int 0, .ref q_46, .ref q_47])), (q_46, .inl (cA_48, 0, .inr (.inl (fun _ => 0)))), (q_47, .inl (cA_49, 0, .inl (fun _ => 0))), (q_50, .inl (cA_51, 3, .inl (fun _ => 0))), (q_52, .inl (cA_53, 4, .inr (.inr (.inr (.inr (va_up (va_up (va_up (va_up (fun _ => none) (0 : Int32).toNatClampNeg (some q_54)) (1 : Int32).toNatClampNeg (some q_59)) (2 : Int32).toNatClampNeg (some q_64)) (3 : Int32).toNatClampNeg (some q_69))))))), (q_54, .inr (2, [.int (-1), .int 0, .ref q_57])), (q_57, .inl (cA_58, 60, .inr (.inl (fun _ => 0)))), (q_59, .inr (2, [.int (-1), .int 0, .ref q_62])), (q_62, .inl (cA_63, 60, .inr (.inl (fun _ => 0)))), (q_64, .inr (2, [.int (-1), .int 0, .ref q_67])), (q_67, .inl (cA_68, 60, .inr (.inl (fun _ => 0)))), (q_69, .inr (2, [.int (-1), .int 0, .ref q_72])), (q_72, .inl (cA_73, 60, .inr (.inl (fun _ => 0)))), (q_74, .inr (4, [.ref q_77, .ref q_78, .ref q_79])), (q_77, .inl (cA_80, 0, .inl (fun _ => 0))), (q_78, .inl (cA_81, 0, .inl (fun _ => 0))), (q_79, .inl (cA_82, 0, .inl (fun _ => 0))), (q_83, .inr (5, [.null]))] := hD
  refine W.widen (k := 36) (n := 3323) (lel _ _ rfl) (lel _ _ rfl) ?_
  refine lv_dup hx hb dX9_init_168 rfl ?_
  have hFc := va_free (wc := [(q_83, .inr (5, [.null]))]) hD hS hA [36] rfl
  refine va_callv (va_runIN (As := []) (rest := [.ref q_83, .ref h0]) ⟨hx, hb, hml, hown, hts⟩ (kX6_init l dC dI q_83 (H.size)) ⟨va_cnB (host := RX9) 0 hts gX9_init__X6_init_I rfl rfl rfl (hN _ (List.mem_of_getElem? (i := 28) rfl)) (hts (.initialized RX6) (List.mem_of_getElem? (i := 70) rfl)) (by decide +kernel) ⟨lel 2 2 rfl, lel 32 34 rfl⟩, rfl, (hts (.instanceMethod yX6_init) (List.mem_of_getElem? (i := 74) rfl))⟩ ⟨hw_fb, (hw_use hP hD hK hN [36] rfl (by decide) rfl [] rfl)⟩ rfl rfl hl.1 rfl (lv_room (Nat.le_of_ble_eq_true rfl)) dX9_init_169 ⟨lel 37 38 rfl, lel 3504 3520 rfl⟩) hS (fun q _ h => hFc q h) hFc (fun u_85 t H1 locs ht hvm hwr_84 hB hz1 hk1 hS => ?_)
  obtain ⟨q_86, cA_87, hP1, hK1, hD1⟩ := hB
  rw [ht] at hP1
  have hK1 := va_K.moved hvm.symm hK1
  obtain ⟨hP, hD⟩ := va_join (wr := [(h0, .inr (7, [.ref q_1, .ref q_6, .ref q_17, .ref q_20, .ref q_27, .ref q_50, .ref q_52, .ref q_74, .null, .null])), (q_1, .inr (6, [.ref q_4, .int 0])), (q_4, .inl (cA_5, 1200, .inl (fun _ => 0))), (q_6, .inr (3, [.int 0, .int 0, .int 0, .int 0, .int 0, .ref q_9, .ref q_10, .ref q_11, .ref q_12])), (q_9, .inl (cA_13, 9, .inl (fun _ => 0))), (q_10, .inl (cA_14, 600, .inl (fun _ => 0))), (q_11, .inl (cA_15, 600, .inr (.inl (fun _ => 0)))), (q_12, .inl (cA_16, 600, .inr (.inl (fun _ => 0)))), (q_17, .inr (0, [.ref q_1, .ref q_6, .int 0, .int (-1), .int 0, .int 0, .int 0, .int 0, .int 0])), (q_20, .inr (1, [.int 0, .int 0, .int 0, .int 0, .int 0, .ref q_23, .ref q_24])), (q_23, .inl (cA_25, 0, .inr (.inl (fun _ => 0)))), (q_24, .inl (cA_26, 0, .inl (fun _ => 0))), (q_27, .inl (cA_28, 3, .inr (.inr (.inr (.inr (va_up (va_up (va_up (fun _ => none) (0 : Int32).toNatClampNeg (some q_29)) (1 : Int32).toNatClampNeg (some q_36)) (2 : Int32).toNatClampNeg (some q_43))))))), (q_29, .inr (1, [.int 0, .int 0, .int 0, .int 0, .int 0, .ref q_32, .ref q_33])), (q_32, .inl (cA_34, 0, .inr (.inl (fun _ => 0)))), (q_33, .inl (cA_35, 0, .inl (fun _ => 0))), (q_36, .inr (1, [.int 0, .int 0, .int 0, .int 0, .int 0, .ref q_39, .ref q_40])), (q_39, .inl (cA_41, 0, .inr (.inl (fun _ => 0)))), (q_40, .inl (cA_42, 0, .inl (fun _ => 0))), (q_43, .inr (1, [.int 0, .int 0, .int 0, .int 0, .int 0, .ref q_46, .ref q_47])), (q_46, .inl (cA_48, 0, .inr (.inl (fun _ => 0)))), (q_47, .inl (cA_49, 0, .inl (fun _ => 0))), (q_50, .inl (cA_51, 3, .inl (fun _ => 0))), (q_52, .inl (cA_53, 4, .inr (.inr (.inr (.inr (va_up (va_up (va_up (va_up (fun _ => none) (0 : Int32).toNatClampNeg (some q_54)) (1 : Int32).toNatClampNeg (some q_59)) (2 : Int32).toNatClampNeg (some q_64)) (3 : Int32).toNatClampNeg (some q_69))))))), (q_54, .inr (2, [.int (-1), .int 0, .ref q_57])), (q_57, .inl (cA_58, 60, .inr (.inl (fun _ => 0)))), (q_59, .inr (2, [.int (-1), .int 0, .ref q_62])), (q_62, .inl (cA_63, 60, .inr (.inl (fun _ => 0)))), (q_64, .inr (2, [.int (-1), .int 0, .ref q_67])), (q_67, .inl (cA_68, 60, .inr (.inl (fun _ => 0)))), (q_69, .inr (2, [.int (-1), .int 0, .ref q_72])), (q_72, .inl (cA_73, 60, .inr (.inl (fun _ => 0)))), (q_74, .inr (4, [.ref q_77, .ref q_78, .ref q_79])), (q_77, .inl (cA_80, 0, .inl (fun _ => 0))), (q_78, .inl (cA_81, 0, .inl (fun _ => 0))), (q_79, .inl (cA_82, 0, .inl (fun _ => 0)))]) (w1 := [(q_83, .inr (5, [.ref q_86])), (q_86, .inl (cA_87, 181, .inr (.inl (fun _ => 0))))]) hP hD [36] [0, 1, 2, 3, 4, 5, 6, 7, 8, 9, 10, 11, 12, 13, 14, 15, 16, 17, 18, 19, 20, 21, 22, 23, 24, 25, 26, 27, 28, 29, 30, 31, 32, 33, 34, 35] rfl rfl (by decide) (by decide) hk1 hFc hP1 hD1
  have hK := (hK.sub (tys' := [(cA_5, .byte), (cA_13, .int), (cA_14, .int), (cA_15, .long), (cA_16, .long), (cA_25, .long), (cA_26, .int), (cA_28, .object RX2), (cA_34, .long), (cA_35, .int), (cA_41, .long), (cA_42, .int), (cA_48, .long), (cA_49, .int), (cA_51, .boolean), (cA_53, .object RX3), (cA_58, .long), (cA_63, .long), (cA_68, .long), (cA_73, .long), (cA_80, .int), (cA_81, .int), (cA_82, .byte)]) [0, 1, 2, 3, 4, 5, 6, 7, 8, 9, 10, 11, 12, 13, 14, 15, 16, 17, 18, 19, 20, 21, 22] rfl).app hK1
  generalize H1 = H at hP hS ⊢
  have hP : va_P (dC, dI) vwCl [(h0, .inr (7, [.ref q_1, .ref q_6, .ref q_17, .ref q_20, .ref q_27, .ref q_50, .ref q_52, .ref q_74, .null, .null])), (q_1, .inr (6, [.ref q_4, .int 0])), (q_4, .inl (cA_5, 1200, .inl (fun _ => 0))), (q_6, .inr (3, [.int 0, .int 0, .int 0, .int 0, .int 0, .ref q_9, .ref q_10, .ref q_11, .ref q_12])), (q_9, .inl (cA_13, 9, .inl (fun _ => 0))), (q_10, .inl (cA_14, 600, .inl (fun _ => 0))), (q_11, .inl (cA_15, 600, .inr (.inl (fun _ => 0)))), (q_12, .inl (cA_16, 600, .inr (.inl (fun _ => 0)))), (q_17, .inr (0, [.ref q_1, .ref q_6, .int 0, .int (-1), .int 0, .int 0, .int 0, .int 0, .int 0])), (q_20, .inr (1, [.int 0, .int 0, .int 0, .int 0, .int 0, .ref q_23, .ref q_24])), (q_23, .inl (cA_25, 0, .inr (.inl (fun _ => 0)))), (q_24, .inl (cA_26, 0, .inl (fun _ => 0))), (q_27, .inl (cA_28, 3, .inr (.inr (.inr (.inr (va_up (va_up (va_up (fun _ => none) (0 : Int32).toNatClampNeg (some q_29)) (1 : Int32).toNatClampNeg (some q_36)) (2 : Int32).toNatClampNeg (some q_43))))))), (q_29, .inr (1, [.int 0, .int 0, .int 0, .int 0, .int 0, .ref q_32, .ref q_33])), (q_32, .inl (cA_34, 0, .inr (.inl (fun _ => 0)))), (q_33, .inl (cA_35, 0, .inl (fun _ => 0))), (q_36, .inr (1, [.int 0, .int 0, .int 0, .int 0, .int 0, .ref q_39, .ref q_40])), (q_39, .inl (cA_41, 0, .inr (.inl (fun _ => 0)))), (q_40, .inl (cA_42, 0, .inl (fun _ => 0))), (q_43, .inr (1, [.int 0, .int 0, .int 0, .int 0, .int 0, .ref q_46, .ref q_47])), (q_46, .inl (cA_48, 0, .inr (.inl (fun _ => 0)))), (q_47, .inl (cA_49, 0, .inl (fun _ => 0))), (q_50, .inl (cA_51, 3, .inl (fun _ => 0))), (q_52, .inl (cA_53, 4, .inr (.inr (.inr (.inr (va_up (va_up (va_up (va_up (fun _ => none) (0 : Int32).toNatClampNeg (some q_54)) (1 : Int32).toNatClampNeg (some q_59)) (2 : Int32).toNatClampNeg (some q_64)) (3 : Int32).toNatClampNeg (some q_69))))))), (q_54, .inr (2, [.int (-1), .int 0, .ref q_57])), (q_57, .inl (cA_58, 60, .inr (.inl (fun _ => 0)))), (q_59, .inr (2, [.int (-1), .int 0, .ref q_62])), (q_62, .inl (cA_63, 60, .inr (.inl (fun _ => 0)))), (q_64, .inr (2, [.int (-1), .int 0, .ref q_67])), (q_67, .inl (cA_68, 60, .inr (.inl (fun _ => 0)))), (q_69, .inr (2, [.int (-1), .int 0, .ref q_72])), (q_72, .inl (cA_73, 60, .inr (.inl (fun _ => 0)))), (q_74, .inr (4, [.ref q_77, .ref q_78, .ref q_79])), (q_77, .inl (cA_80, 0, .inl (fun _ => 0))), (q_78, .inl (cA_81, 0, .inl (fun _ => 0))), (q_79, .inl (cA_82, 0, .inl (fun _ => 0))), (q_83, .inr (5, [.ref q_86])), (q_86, .inl (cA_87, 181, .inr (.inl (fun _ => 0))))] H := hP
  have hD : va_D A [(h0, .inr (7, [.ref q_1, .ref q_6, .ref q_17, .ref q_20, .ref q_27, .ref q_50, .ref q_52, .ref q_74, .null, .null])), (q_1, .inr (6, [.ref q_4, .int 0])), (q_4, .inl (cA_5, 1200, .inl (fun _ => 0))), (q_6, .inr (3, [.int 0, .int 0, .int 0, .int 0, .int 0, .ref q_9, .ref q_10, .ref q_11, .ref q_12])), (q_9, .inl (cA_13, 9, .inl (fun _ => 0))), (q_10, .inl (cA_14, 600, .inl (fun _ => 0))), (q_11, .inl (cA_15, 600, .inr (.inl (fun _ => 0)))), (q_12, .inl (cA_16, 600, .inr (.inl (fun _ => 0)))), (q_17, .inr (0, [.ref q_1, .ref q_6, .int 0, .int (-1), .int 0, .int 0, .int 0, .int 0, .int 0])), (q_20, .inr (1, [.int 0, .int 0, .int 0, .int 0, .int 0, .ref q_23, .ref q_24])), (q_23, .inl (cA_25, 0, .inr (.inl (fun _ => 0)))), (q_24, .inl (cA_26, 0, .inl (fun _ => 0))), (q_27, .inl (cA_28, 3, .inr (.inr (.inr (.inr (va_up (va_up (va_up (fun _ => none) (0 : Int32).toNatClampNeg (some q_29)) (1 : Int32).toNatClampNeg (some q_36)) (2 : Int32).toNatClampNeg (some q_43))))))), (q_29, .inr (1, [.int 0, .int 0, .int 0, .int 0, .int 0, .ref q_32, .ref q_33])), (q_32, .inl (cA_34, 0, .inr (.inl (fun _ => 0)))), (q_33, .inl (cA_35, 0, .inl (fun _ => 0))), (q_36, .inr (1, [.int 0, .int 0, .int 0, .int 0, .int 0, .ref q_39, .ref q_40])), (q_39, .inl (cA_41, 0, .inr (.inl (fun _ => 0)))), (q_40, .inl (cA_42, 0, .inl (fun _ => 0))), (q_43, .inr (1, [.int 0, .int 0, .int 0, .int 0, .int 0, .ref q_46, .ref q_47])), (q_46, .inl (cA_48, 0, .inr (.inl (fun _ => 0)))), (q_47, .inl (cA_49, 0, .inl (fun _ => 0))), (q_50, .inl (cA_51, 3, .inl (fun _ => 0))), (q_52, .inl (cA_53, 4, .inr (.inr (.inr (.inr (va_up (va_up (va_up (va_up (fun _ => none) (0 : Int32).toNatClampNeg (some q_54)) (1 : Int32).toNatClampNeg (some q_59)) (2 : Int32).toNatClampNeg (some q_64)) (3 : Int32).toNatClampNeg (some q_69))))))), (q_54, .inr (2, [.int (-1), .int 0, .ref q_57])), (q_57, .inl (cA_58, 60, .inr (.inl (fun _ => 0)))), (q_59, .inr (2, [.int (-1), .int 0, .ref q_62])), (q_62, .inl (cA_63, 60, .inr (.inl (fun _ => 0)))), (q_64, .inr (2, [.int (-1), .int 0, .ref q_67])), (q_67, .inl (cA_68, 60, .inr (.inl (fun _ => 0)))), (q_69, .inr (2, [.int (-1), .int 0, .ref q_72])), (q_72, .inl (cA_73, 60, .inr (.inl (fun _ => 0)))), (q_74, .inr (4, [.ref q_77, .ref q_78, .ref q_79])), (q_77, .inl (cA_80, 0, .inl (fun _ => 0))), (q_78, .inl (cA_81, 0, .inl (fun _ => 0))), (q_79, .inl (cA_82, 0, .inl (fun _ => 0))), (q_83, .inr (5, [.ref q_86])), (q_86, .inl (cA_87, 181, .inr (.inl (fun _ => 0))))] := hD
  have hK : va_K (dC, dI) vwCl [(cA_5, .byte), (cA_13, .int), (cA_14, .int), (cA_15, .long), (cA_16, .long), (cA_25, .long), (cA_26, .int), (cA_28, .object RX2), (cA_34, .long), (cA_35, .int), (cA_41, .long), (cA_42, .int), (cA_48, .long), (cA_49, .int), (cA_51, .boolean), (cA_53, .object RX3), (cA_58, .long), (cA_63, .long), (cA_68, .long), (cA_73, .long), (cA_80, .int), (cA_81, .int), (cA_82, .byte), (cA_87, .long)] s := hK
  refine W.widen (k := 37) (n := 3504) (lel _ _ rfl) (lel _ _ rfl) ?_
  refine va_putF (D := (dC, dI)) (ci := 7) (v := .ref q_83) (ty := .object "LuckyTicket$SumTable") (C := RX9) (T := TX9) (N := 10) hx hb hts iX9_init_X9 tyX9 tyX9_ok nmX9 hown hK hP hD hS 0 rfl rfl 8 (by decide) (hts (.fieldLink RX9 64 "LuckyTicket" "sumTable" "LLuckyTicket$SumTable;") (List.mem_of_getElem? (i := 75) rfl)) (fun _ h9 => h9) rfl hin rfl (by decide +kernel) rfl rfl (Nat.le_of_ble_eq_true rfl) dX9_init_172 (fun H locs hP hD hS => ?_)
  have hP : va_P (dC, dI) vwCl [(h0, .inr (7, [.ref q_1, .ref q_6, .ref q_17, .ref q_20, .ref q_27, .ref q_50, .ref q_52, .ref q_74, .ref q_83, .null])), (q_1, .inr (6, [.ref q_4, .int 0])), (q_4, .inl (cA_5, 1200, .inl (fun _ => 0))), (q_6, .inr (3, [.int 0, .int 0, .int 0, .int 0, .int 0, .ref q_9, .ref q_10, .ref q_11, .ref q_12])), (q_9, .inl (cA_13, 9, .inl (fun _ => 0))), (q_10, .inl (cA_14, 600, .inl (fun _ => 0))), (q_11, .inl (cA_15, 600, .inr (.inl (fun _ => 0)))), (q_12, .inl (cA_16, 600, .inr (.inl (fun _ => 0)))), (q_17, .inr (0, [.ref q_1, .ref q_6, .int 0, .int (-1), .int 0, .int 0, .int 0, .int 0, .int 0])), (q_20, .inr (1, [.int 0, .int 0, .int 0, .int 0, .int 0, .ref q_23, .ref q_24])), (q_23, .inl (cA_25, 0, .inr (.inl (fun _ => 0)))), (q_24, .inl (cA_26, 0, .inl (fun _ => 0))), (q_27, .inl (cA_28, 3, .inr (.inr (.inr (.inr (va_up (va_up (va_up (fun _ => none) (0 : Int32).toNatClampNeg (some q_29)) (1 : Int32).toNatClampNeg (some q_36)) (2 : Int32).toNatClampNeg (some q_43))))))), (q_29, .inr (1, [.int 0, .int 0, .int 0, .int 0, .int 0, .ref q_32, .ref q_33])), (q_32, .inl (cA_34, 0, .inr (.inl (fun _ => 0)))), (q_33, .inl (cA_35, 0, .inl (fun _ => 0))), (q_36, .inr (1, [.int 0, .int 0, .int 0, .int 0, .int 0, .ref q_39, .ref q_40])), (q_39, .inl (cA_41, 0, .inr (.inl (fun _ => 0)))), (q_40, .inl (cA_42, 0, .inl (fun _ => 0))), (q_43, .inr (1, [.int 0, .int 0, .int 0, .int 0, .int 0, .ref q_46, .ref q_47])), (q_46, .inl (cA_48, 0, .inr (.inl (fun _ => 0)))), (q_47, .inl (cA_49, 0, .inl (fun _ => 0))), (q_50, .inl (cA_51, 3, .inl (fun _ => 0))), (q_52, .inl (cA_53, 4, .inr (.inr (.inr (.inr (va_up (va_up (va_up (va_up (fun _ => none) (0 : Int32).toNatClampNeg (some q_54)) (1 : Int32).toNatClampNeg (some q_59)) (2 : Int32).toNatClampNeg (some q_64)) (3 : Int32).toNatClampNeg (some q_69))))))), (q_54, .inr (2, [.int (-1), .int 0, .ref q_57])), (q_57, .inl (cA_58, 60, .inr (.inl (fun _ => 0)))), (q_59, .inr (2, [.int (-1), .int 0, .ref q_62])), (q_62, .inl (cA_63, 60, .inr (.inl (fun _ => 0)))), (q_64, .inr (2, [.int (-1), .int 0, .ref q_67])), (q_67, .inl (cA_68, 60, .inr (.inl (fun _ => 0)))), (q_69, .inr (2, [.int (-1), .int 0, .ref q_72])), (q_72, .inl (cA_73, 60, .inr (.inl (fun _ => 0)))), (q_74, .inr (4, [.ref q_77, .ref q_78, .ref q_79])), (q_77, .inl (cA_80, 0, .inl (fun _ => 0))), (q_78, .inl (cA_81, 0, .inl (fun _ => 0))), (q_79, .inl (cA_82, 0, .inl (fun _ => 0))), (q_83, .inr (5, [.ref q_86])), (q_86, .inl (cA_87, 181, .inr (.inl (fun _ => 0))))] H := hP
  have hD : va_D A [(h0, .inr (7, [.ref q_1, .ref q_6, .ref q_17, .ref q_20, .ref q_27, .ref q_50, .ref q_52, .ref q_74, .ref q_83, .null])), (q_1, .inr (6, [.ref q_4, .int 0])), (q_4, .inl (cA_5, 1200, .inl (fun _ => 0))), (q_6, .inr (3, [.int 0, .int 0, .int 0, .int 0, .int 0, .ref q_9, .ref q_10, .ref q_11, .ref q_12])), (q_9, .inl (cA_13, 9, .inl (fun _ => 0))), (q_10, .inl (cA_14, 600, .inl (fun _ => 0))), (q_11, .inl (cA_15, 600, .inr (.inl (fun _ => 0)))), (q_12, .inl (cA_16, 600, .inr (.inl (fun _ => 0)))), (q_17, .inr (0, [.ref q_1, .ref q_6, .int 0, .int (-1), .int 0, .int 0, .int 0, .int 0, .int 0])), (q_20, .inr (1, [.int 0, .int 0, .int 0, .int 0, .int 0, .ref q_23, .ref q_24])), (q_23, .inl (cA_25, 0, .inr (.inl (fun _ => 0)))), (q_24, .inl (cA_26, 0, .inl (fun _ => 0))), (q_27, .inl (cA_28, 3, .inr (.inr (.inr (.inr (va_up (va_up (va_up (fun _ => none) (0 : Int32).toNatClampNeg (some q_29)) (1 : Int32).toNatClampNeg (some q_36)) (2 : Int32).toNatClampNeg (some q_43))))))), (q_29, .inr (1, [.int 0, .int 0, .int 0, .int 0, .int 0, .ref q_32, .ref q_33])), (q_32, .inl (cA_34, 0, .inr (.inl (fun _ => 0)))), (q_33, .inl (cA_35, 0, .inl (fun _ => 0))), (q_36, .inr (1, [.int 0, .int 0, .int 0, .int 0, .int 0, .ref q_39, .ref q_40])), (q_39, .inl (cA_41, 0, .inr (.inl (fun _ => 0)))), (q_40, .inl (cA_42, 0, .inl (fun _ => 0))), (q_43, .inr (1, [.int 0, .int 0, .int 0, .int 0, .int 0, .ref q_46, .ref q_47])), (q_46, .inl (cA_48, 0, .inr (.inl (fun _ => 0)))), (q_47, .inl (cA_49, 0, .inl (fun _ => 0))), (q_50, .inl (cA_51, 3, .inl (fun _ => 0))), (q_52, .inl (cA_53, 4, .inr (.inr (.inr (.inr (va_up (va_up (va_up (va_up (fun _ => none) (0 : Int32).toNatClampNeg (some q_54)) (1 : Int32).toNatClampNeg (some q_59)) (2 : Int32).toNatClampNeg (some q_64)) (3 : Int32).toNatClampNeg (some q_69))))))), (q_54, .inr (2, [.int (-1), .int 0, .ref q_57])), (q_57, .inl (cA_58, 60, .inr (.inl (fun _ => 0)))), (q_59, .inr (2, [.int (-1), .int 0, .ref q_62])), (q_62, .inl (cA_63, 60, .inr (.inl (fun _ => 0)))), (q_64, .inr (2, [.int (-1), .int 0, .ref q_67])), (q_67, .inl (cA_68, 60, .inr (.inl (fun _ => 0)))), (q_69, .inr (2, [.int (-1), .int 0, .ref q_72])), (q_72, .inl (cA_73, 60, .inr (.inl (fun _ => 0)))), (q_74, .inr (4, [.ref q_77, .ref q_78, .ref q_79])), (q_77, .inl (cA_80, 0, .inl (fun _ => 0))), (q_78, .inl (cA_81, 0, .inl (fun _ => 0))), (q_79, .inl (cA_82, 0, .inl (fun _ => 0))), (q_83, .inr (5, [.ref q_86])), (q_86, .inl (cA_87, 181, .inr (.inl (fun _ => 0))))] := hD
  refine lv_aload_n hx hb dX9_init_175 rfl (lv_at hl 0 rfl) ?_
  refine lv_bipush (v := 16) hx hb dX9_init_176 (by decide) ?_
  refine va_newa (atype := .int) (ty := .int) (a0 := (16, .inl (fun _ => 0))) (N' := 16) hx hb (hts (.arrayClass .int) (List.mem_of_getElem? (i := 18) rfl)) rfl hK hP hD hS hA (fun cA => na_int cA 16) (by decide) (by decide) (by decide) (lel 38 38 rfl) (lel 3520 3520 rfl) dX9_init_178 (fun q_88 cA_89 H hK hP hD hS => ?_)
  have hP : va_P (dC, dI) vwCl [(h0, .inr (7, [.ref q_1, .ref q_6, .ref q_17, .ref q_20, .ref q_27, .ref q_50, .ref q_52, .ref q_74, .ref q_83, .null])), (q_1, .inr (6, [.ref q_4, .int 0])), (q_4, .inl (cA_5, 1200, .inl (fun _ => 0))), (q_6, .inr (3, [.int 0, .int 0, .int 0, .int 0, .int 0, .ref q_9, .ref q_10, .ref q_11, .ref q_12])), (q_9, .inl (cA_13, 9, .inl (fun _ => 0))), (q_10, .inl (cA_14, 600, .inl (fun _ => 0))), (q_11, .inl (cA_15, 600, .inr (.inl (fun _ => 0)))), (q_12, .inl (cA_16, 600, .inr (.inl (fun _ => 0)))), (q_17, .inr (0, [.ref q_1, .ref q_6, .int 0, .int (-1), .int 0, .int 0, .int 0, .int 0, .int 0])), (q_20, .inr (1, [.int 0, .int 0, .int 0, .int 0, .int 0, .ref q_23, .ref q_24])), (q_23, .inl (cA_25, 0, .inr (.inl (fun _ => 0)))), (q_24, .inl (cA_26, 0, .inl (fun _ => 0))), (q_27, .inl (cA_28, 3, .inr (.inr (.inr (.inr (va_up (va_up (va_up (fun _ => none) (0 : Int32).toNatClampNeg (some q_29)) (1 : Int32).toNatClampNeg (some q_36)) (2 : Int32).toNatClampNeg (some q_43))))))), (q_29, .inr (1, [.int 0, .int 0, .int 0, .int 0, .int 0, .ref q_32, .ref q_33])), (q_32, .inl (cA_34, 0, .inr (.inl (fun _ => 0)))), (q_33, .inl (cA_35, 0, .inl (fun _ => 0))), (q_36, .inr (1, [.int 0, .int 0, .int 0, .int 0, .int 0, .ref q_39, .ref q_40])), (q_39, .inl (cA_41, 0, .inr (.inl (fun _ => 0)))), (q_40, .inl (cA_42, 0, .inl (fun _ => 0))), (q_43, .inr (1, [.int 0, .int 0, .int 0, .int 0, .int 0, .ref q_46, .ref q_47])), (q_46, .inl (cA_48, 0, .inr (.inl (fun _ => 0)))), (q_47, .inl (cA_49, 0, .inl (fun _ => 0))), (q_50, .inl (cA_51, 3, .inl (fun _ => 0))), (q_52, .inl (cA_53, 4, .inr (.inr (.inr (.inr (va_up (va_up (va_up (va_up (fun _ => none) (0 : Int32).toNatClampNeg (some q_54)) (1 : Int32).toNatClampNeg (some q_59)) (2 : Int32).toNatClampNeg (some q_64)) (3 : Int32).toNatClampNeg (some q_69))))))), (q_54, .inr (2, [.int (-1), .int 0, .ref q_57])), (q_57, .inl (cA_58, 60, .inr (.inl (fun _ => 0)))), (q_59, .inr (2, [.int (-1), .int 0, .ref q_62])), (q_62, .inl (cA_63, 60, .inr (.inl (fun _ => 0)))), (q_64, .inr (2, [.int (-1), .int 0, .ref q_67])), (q_67, .inl (cA_68, 60, .inr (.inl (fun _ => 0)))), (q_69, .inr (2, [.int (-1), .int 0, .ref q_72])), (q_72, .inl (cA_73, 60, .inr (.inl (fun _ => 0)))), (q_74, .inr (4, [.ref q_77, .ref q_78, .ref q_79])), (q_77, .inl (cA_80, 0, .inl (fun _ => 0))), (q_78, .inl (cA_81, 0, .inl (fun _ => 0))), (q_79, .inl (cA_82, 0, .inl (fun _ => 0))), (q_83, .inr (5, [.ref q_86])), (q_86, .inl (cA_87, 181, .inr (.inl (fun _ => 0)))), (q_88, .inl (cA_89, 16, .inl (fun _ => 0)))] H := hP
  have hD : va_D A [(h0, .inr (7, [.ref q_1, .ref q_6, .ref q_17, .ref q_20, .ref q_27, .ref q_50, .ref q_52, .ref q_74, .ref q_83, .null])), (q_1, .inr (6, [.ref q_4, .int 0])), (q_4, .inl (cA_5, 1200, .inl (fun _ => 0))), (q_6, .inr (3, [.int 0, .int 0, .int 0, .int 0, .int 0, .ref q_9, .ref q_10, .ref q_11, .ref q_12])), (q_9, .inl (cA_13, 9, .inl (fun _ => 0))), (q_10, .inl (cA_14, 600, .inl (fun _ => 0))), (q_11, .inl (cA_15, 600, .inr (.inl (fun _ => 0)))), (q_12, .inl (cA_16, 600, .inr (.inl (fun _ => 0)))), (q_17, .inr (0, [.ref q_1, .ref q_6, .int 0, .int (-1), .int 0, .int 0, .int 0, .int 0, .int 0])), (q_20, .inr (1, [.int 0, .int 0, .int 0, .int 0, .int 0, .ref q_23, .ref q_24])), (q_23, .inl (cA_25, 0, .inr (.inl (fun _ => 0)))), (q_24, .inl (cA_26, 0, .inl (fun _ => 0))), (q_27, .inl (cA_28, 3, .inr (.inr (.inr (.inr (va_up (va_up (va_up (fun _ => none) (0 : Int32).toNatClampNeg (some q_29)) (1 : Int32).toNatClampNeg (some q_36)) (2 : Int32).toNatClampNeg (some q_43))))))), (q_29, .inr (1, [.int 0, .int 0, .int 0, .int 0, .int 0, .ref q_32, .ref q_33])), (q_32, .inl (cA_34, 0, .inr (.inl (fun _ => 0)))), (q_33, .inl (cA_35, 0, .inl (fun _ => 0))), (q_36, .inr (1, [.int 0, .int 0, .int 0, .int 0, .int 0, .ref q_39, .ref q_40])), (q_39, .inl (cA_41, 0, .inr (.inl (fun _ => 0)))), (q_40, .inl (cA_42, 0, .inl (fun _ => 0))), (q_43, .inr (1, [.int 0, .int 0, .int 0, .int 0, .int 0, .ref q_46, .ref q_47])), (q_46, .inl (cA_48, 0, .inr (.inl (fun _ => 0)))), (q_47, .inl (cA_49, 0, .inl (fun _ => 0))), (q_50, .inl (cA_51, 3, .inl (fun _ => 0))), (q_52, .inl (cA_53, 4, .inr (.inr (.inr (.inr (va_up (va_up (va_up (va_up (fun _ => none) (0 : Int32).toNatClampNeg (some q_54)) (1 : Int32).toNatClampNeg (some q_59)) (2 : Int32).toNatClampNeg (some q_64)) (3 : Int32).toNatClampNeg (some q_69))))))), (q_54, .inr (2, [.int (-1), .int 0, .ref q_57])), (q_57, .inl (cA_58, 60, .inr (.inl (fun _ => 0)))), (q_59, .inr (2, [.int (-1), .int 0, .ref q_62])), (q_62, .inl (cA_63, 60, .inr (.inl (fun _ => 0)))), (q_64, .inr (2, [.int (-1), .int 0, .ref q_67])), (q_67, .inl (cA_68, 60, .inr (.inl (fun _ => 0)))), (q_69, .inr (2, [.int (-1), .int 0, .ref q_72])), (q_72, .inl (cA_73, 60, .inr (.inl (fun _ => 0)))), (q_74, .inr (4, [.ref q_77, .ref q_78, .ref q_79])), (q_77, .inl (cA_80, 0, .inl (fun _ => 0))), (q_78, .inl (cA_81, 0, .inl (fun _ => 0))), (q_79, .inl (cA_82, 0, .inl (fun _ => 0))), (q_83, .inr (5, [.ref q_86])), (q_86, .inl (cA_87, 181, .inr (.inl (fun _ => 0)))), (q_88, .inl (cA_89, 16, .inl (fun _ => 0)))] := hD
  have hK : va_K (dC, dI) vwCl [(cA_5, .byte), (cA_13, .int), (cA_14, .int), (cA_15, .long), (cA_16, .long), (cA_25, .long), (cA_26, .int), (cA_28, .object RX2), (cA_34, .long), (cA_35, .int), (cA_41, .long), (cA_42, .int), (cA_48, .long), (cA_49, .int), (cA_51, .boolean), (cA_53, .object RX3), (cA_58, .long), (cA_63, .long), (cA_68, .long), (cA_73, .long), (cA_80, .int), (cA_81, .int), (cA_82, .byte), (cA_87, .long), (cA_89, .int)] s := hK
  refine W.widen (k := 38) (n := 3520) (lel _ _ rfl) (lel _ _ rfl) ?_
  refine va_putF (D := (dC, dI)) (ci := 7) (v := .ref q_88) (ty := .array .int) (C := RX9) (T := TX9) (N := 10) hx hb hts iX9_init_X9 tyX9 tyX9_ok nmX9 hown hK hP hD hS 0 rfl rfl 9 (by decide) (hts (.fieldLink RX9 68 "LuckyTicket" "figureCounts" "[I") (List.mem_of_getElem? (i := 76) rfl)) (fun _ h9 => h9) rfl hin rfl (by decide +kernel) rfl rfl (Nat.le_of_ble_eq_true rfl) dX9_init_180 (fun H locs hP hD hS => ?_)
  have hP : va_P (dC, dI) vwCl [(h0, .inr (7, [.ref q_1, .ref q_6, .ref q_17, .ref q_20, .ref q_27, .ref q_50, .ref q_52, .ref q_74, .ref q_83, .ref q_88])), (q_1, .inr (6, [.ref q_4, .int 0])), (q_4, .inl (cA_5, 1200, .inl (fun _ => 0))), (q_6, .inr (3, [.int 0, .int 0, .int 0, .int 0, .int 0, .ref q_9, .ref q_10, .ref q_11, .ref q_12])), (q_9, .inl (cA_13, 9, .inl (fun _ => 0))), (q_10, .inl (cA_14, 600, .inl (fun _ => 0))), (q_11, .inl (cA_15, 600, .inr (.inl (fun _ => 0)))), (q_12, .inl (cA_16, 600, .inr (.inl (fun _ => 0)))), (q_17, .inr (0, [.ref q_1, .ref q_6, .int 0, .int (-1), .int 0, .int 0, .int 0, .int 0, .int 0])), (q_20, .inr (1, [.int 0, .int 0, .int 0, .int 0, .int 0, .ref q_23, .ref q_24])), (q_23, .inl (cA_25, 0, .inr (.inl (fun _ => 0)))), (q_24, .inl (cA_26, 0, .inl (fun _ => 0))), (q_27, .inl (cA_28, 3, .inr (.inr (.inr (.inr (va_up (va_up (va_up (fun _ => none) (0 : Int32).toNatClampNeg (some q_29)) (1 : Int32).toNatClampNeg (some q_36)) (2 : Int32).toNatClampNeg (some q_43))))))), (q_29, .inr (1, [.int 0, .int 0, .int 0, .int 0, .int 0, .ref q_32, .ref q_33])), (q_32, .inl (cA_34, 0, .inr (.inl (fun _ => 0)))), (q_33, .inl (cA_35, 0, .inl (fun _ => 0))), (q_36, .inr (1, [.int 0, .int 0, .int 0, .int 0, .int 0, .ref q_39, .ref q_40])), (q_39, .inl (cA_41, 0, .inr (.inl (fun _ => 0)))), (q_40, .inl (cA_42, 0, .inl (fun _ => 0))), (q_43, .inr (1, [.int 0, .int 0, .int 0, .int 0, .int 0, .ref q_46, .ref q_47])), (q_46, .inl (cA_48, 0, .inr (.inl (fun _ => 0)))), (q_47, .inl (cA_49, 0, .inl (fun _ => 0))), (q_50, .inl (cA_51, 3, .inl (fun _ => 0))), (q_52, .inl (cA_53, 4, .inr (.inr (.inr (.inr (va_up (va_up (va_up (va_up (fun _ => none) (0 : Int32).toNatClampNeg (some q_54)) (1 : Int32).toNatClampNeg (some q_59)) (2 : Int32).toNatClampNeg (some q_64)) (3 : Int32).toNatClampNeg (some q_69))))))), (q_54, .inr (2, [.int (-1), .int 0, .ref q_57])), (q_57, .inl (cA_58, 60, .inr (.inl (fun _ => 0)))), (q_59, .inr (2, [.int (-1), .int 0, .ref q_62])), (q_62, .inl (cA_63, 60, .inr (.inl (fun _ => 0)))), (q_64, .inr (2, [.int (-1), .int 0, .ref q_67])), (q_67, .inl (cA_68, 60, .inr (.inl (fun _ => 0)))), (q_69, .inr (2, [.int (-1), .int 0, .ref q_72])), (q_72, .inl (cA_73, 60, .inr (.inl (fun _ => 0)))), (q_74, .inr (4, [.ref q_77, .ref q_78, .ref q_79])), (q_77, .inl (cA_80, 0, .inl (fun _ => 0))), (q_78, .inl (cA_81, 0, .inl (fun _ => 0))), (q_79, .inl (cA_82, 0, .inl (fun _ => 0))), (q_83, .inr (5, [.ref q_86])), (q_86, .inl (cA_87, 181, .inr (.inl (fun _ => 0)))), (q_88, .inl (cA_89, 16, .inl (fun _ => 0)))] H := hP
  have hD : va_D A [(h0, .inr (7, [.ref q_1, .ref q_6, .ref q_17, .ref q_20, .ref q_27, .ref q_50, .ref q_52, .ref q_74, .ref q_83, .ref q_88])), (q_1, .inr (6, [.ref q_4, .int 0])), (q_4, .inl (cA_5, 1200, .inl (fun _ => 0))), (q_6, .inr (3, [.int 0, .int 0, .int 0, .int 0, .int 0, .ref q_9, .ref q_10, .ref q_11, .ref q_12])), (q_9, .inl (cA_13, 9, .inl (fun _ => 0))), (q_10, .inl (cA_14, 600, .inl (fun _ => 0))), (q_11, .inl (cA_15, 600, .inr (.inl (fun _ => 0)))), (q_12, .inl (cA_16, 600, .inr (.inl (fun _ => 0)))), (q_17, .inr (0, [.ref q_1, .ref q_6, .int 0, .int (-1), .int 0, .int 0, .int 0, .int 0, .int 0])), (q_20, .inr (1, [.int 0, .int 0, .int 0, .int 0, .int 0, .ref q_23, .ref q_24])), (q_23, .inl (cA_25, 0, .inr (.inl (fun _ => 0)))), (q_24, .inl (cA_26, 0, .inl (fun _ => 0))), (q_27, .inl (cA_28, 3, .inr (.inr (.inr (.inr (va_up (va_up (va_up (fun _ => none) (0 : Int32).toNatClampNeg (some q_29)) (1 : Int32).toNatClampNeg (some q_36)) (2 : Int32).toNatClampNeg (some q_43))))))), (q_29, .inr (1, [.int 0, .int 0, .int 0, .int 0, .int 0, .ref q_32, .ref q_33])), (q_32, .inl (cA_34, 0, .inr (.inl (fun _ => 0)))), (q_33, .inl (cA_35, 0, .inl (fun _ => 0))), (q_36, .inr (1, [.int 0, .int 0, .int 0, .int 0, .int 0, .ref q_39, .ref q_40])), (q_39, .inl (cA_41, 0, .inr (.inl (fun _ => 0)))), (q_40, .inl (cA_42, 0, .inl (fun _ => 0))), (q_43, .inr (1, [.int 0, .int 0, .int 0, .int 0, .int 0, .ref q_46, .ref q_47])), (q_46, .inl (cA_48, 0, .inr (.inl (fun _ => 0)))), (q_47, .inl (cA_49, 0, .inl (fun _ => 0))), (q_50, .inl (cA_51, 3, .inl (fun _ => 0))), (q_52, .inl (cA_53, 4, .inr (.inr (.inr (.inr (va_up (va_up (va_up (va_up (fun _ => none) (0 : Int32).toNatClampNeg (some q_54)) (1 : Int32).toNatClampNeg (some q_59)) (2 : Int32).toNatClampNeg (some q_64)) (3 : Int32).toNatClampNeg (some q_69))))))), (q_54, .inr (2, [.int (-1), .int 0, .ref q_57])), (q_57, .inl (cA_58, 60, .inr (.inl (fun _ => 0)))), (q_59, .inr (2, [.int (-1), .int 0, .ref q_62])), (q_62, .inl (cA_63, 60, .inr (.inl (fun _ => 0)))), (q_64, .inr (2, [.int (-1), .int 0, .ref q_67])), (q_67, .inl (cA_68, 60, .inr (.inl (fun _ => 0)))), (q_69, .inr (2, [.int (-1), .int 0, .ref q_72])), (q_72, .inl (cA_73, 60, .inr (.inl (fun _ => 0)))), (q_74, .inr (4, [.ref q_77, .ref q_78, .ref q_79])), (q_77, .inl (cA_80, 0, .inl (fun _ => 0))), (q_78, .inl (cA_81, 0, .inl (fun _ => 0))), (q_79, .inl (cA_82, 0, .inl (fun _ => 0))), (q_83, .inr (5, [.ref q_86])), (q_86, .inl (cA_87, 181, .inr (.inl (fun _ => 0)))), (q_88, .inl (cA_89, 16, .inl (fun _ => 0)))] := hD
  have hP9 := hP.sub (ws' := [(h0, .inr (7, [.ref q_1, .ref q_6, .ref q_17, .ref q_20, .ref q_27, .ref q_50, .ref q_52, .ref q_74, .ref q_83, .ref q_88])), (q_1, .inr (6, [.ref q_4, .int 0])), (q_4, .inl (cA_5, 1200, .inl (fun _ => 0))), (q_6, .inr (3, [.int 0, .int 0, .int 0, .int 0, .int 0, .ref q_9, .ref q_10, .ref q_11, .ref q_12])), (q_9, .inl (cA_13, 9, .inl (fun _ => 0))), (q_10, .inl (cA_14, 600, .inl (fun _ => 0))), (q_11, .inl (cA_15, 600, .inr (.inl (fun _ => 0)))), (q_12, .inl (cA_16, 600, .inr (.inl (fun _ => 0)))), (q_17, .inr (0, [.ref q_1, .ref q_6, .int 0, .int (-1), .int 0, .int 0, .int 0, .int 0, .int 0])), (q_20, .inr (1, [.int 0, .int 0, .int 0, .int 0, .int 0, .ref q_23, .ref q_24])), (q_23, .inl (cA_25, 0, .inr (.inl (fun _ => 0)))), (q_24, .inl (cA_26, 0, .inl (fun _ => 0))), (q_27, .inl (cA_28, 3, .inr (.inr (.inr (.inr (sf3 q_29 q_36 q_43)))))), (q_29, .inr (1, [.int 0, .int 0, .int 0, .int 0, .int 0, .ref q_32, .ref q_33])), (q_32, .inl (cA_34, 0, .inr (.inl (fun _ => 0)))), (q_33, .inl (cA_35, 0, .inl (fun _ => 0))), (q_36, .inr (1, [.int 0, .int 0, .int 0, .int 0, .int 0, .ref q_39, .ref q_40])), (q_39, .inl (cA_41, 0, .inr (.inl (fun _ => 0)))), (q_40, .inl (cA_42, 0, .inl (fun _ => 0))), (q_43, .inr (1, [.int 0, .int 0, .int 0, .int 0, .int 0, .ref q_46, .ref q_47])), (q_46, .inl (cA_48, 0, .inr (.inl (fun _ => 0)))), (q_47, .inl (cA_49, 0, .inl (fun _ => 0))), (q_50, .inl (cA_51, 3, .inl (fun _ => 0))), (q_52, .inl (cA_53, 4, .inr (.inr (.inr (.inr (sf4 q_54 q_59 q_64 q_69)))))), (q_54, .inr (2, [.int (-1), .int 0, .ref q_57])), (q_57, .inl (cA_58, 60, .inr (.inl (fun _ => 0)))), (q_59, .inr (2, [.int (-1), .int 0, .ref q_62])), (q_62, .inl (cA_63, 60, .inr (.inl (fun _ => 0)))), (q_64, .inr (2, [.int (-1), .int 0, .ref q_67])), (q_67, .inl (cA_68, 60, .inr (.inl (fun _ => 0)))), (q_69, .inr (2, [.int (-1), .int 0, .ref q_72])), (q_72, .inl (cA_73, 60, .inr (.inl (fun _ => 0)))), (q_74, .inr (4, [.ref q_77, .ref q_78, .ref q_79])), (q_77, .inl (cA_80, 0, .inl (fun _ => 0))), (q_78, .inl (cA_81, 0, .inl (fun _ => 0))), (q_79, .inl (cA_82, 0, .inl (fun _ => 0))), (q_83, .inr (5, [.ref q_86])), (q_86, .inl (cA_87, 181, .inr (.inl (fun _ => 0)))), (q_88, .inl (cA_89, 16, .inl (fun _ => 0)))]) [0, 1, 2, 3, 4, 5, 6, 7, 8, 9, 10, 11, 12, 13, 14, 15, 16, 17, 18, 19, 20, 21, 22, 23, 24, 25, 26, 27, 28, 29, 30, 31, 32, 33, 34, 35, 36, 37, 38] rfl
  have hD9 := hD.sub (ws' := [(h0, .inr (7, [.ref q_1, .ref q_6, .ref q_17, .ref q_20, .ref q_27, .ref q_50, .ref q_52, .ref q_74, .ref q_83, .ref q_88])), (q_1, .inr (6, [.ref q_4, .int 0])), (q_4, .inl (cA_5, 1200, .inl (fun _ => 0))), (q_6, .inr (3, [.int 0, .int 0, .int 0, .int 0, .int 0, .ref q_9, .ref q_10, .ref q_11, .ref q_12])), (q_9, .inl (cA_13, 9, .inl (fun _ => 0))), (q_10, .inl (cA_14, 600, .inl (fun _ => 0))), (q_11, .inl (cA_15, 600, .inr (.inl (fun _ => 0)))), (q_12, .inl (cA_16, 600, .inr (.inl (fun _ => 0)))), (q_17, .inr (0, [.ref q_1, .ref q_6, .int 0, .int (-1), .int 0, .int 0, .int 0, .int 0, .int 0])), (q_20, .inr (1, [.int 0, .int 0, .int 0, .int 0, .int 0, .ref q_23, .ref q_24])), (q_23, .inl (cA_25, 0, .inr (.inl (fun _ => 0)))), (q_24, .inl (cA_26, 0, .inl (fun _ => 0))), (q_27, .inl (cA_28, 3, .inr (.inr (.inr (.inr (sf3 q_29 q_36 q_43)))))), (q_29, .inr (1, [.int 0, .int 0, .int 0, .int 0, .int 0, .ref q_32, .ref q_33])), (q_32, .inl (cA_34, 0, .inr (.inl (fun _ => 0)))), (q_33, .inl (cA_35, 0, .inl (fun _ => 0))), (q_36, .inr (1, [.int 0, .int 0, .int 0, .int 0, .int 0, .ref q_39, .ref q_40])), (q_39, .inl (cA_41, 0, .inr (.inl (fun _ => 0)))), (q_40, .inl (cA_42, 0, .inl (fun _ => 0))), (q_43, .inr (1, [.int 0, .int 0, .int 0, .int 0, .int 0, .ref q_46, .ref q_47])), (q_46, .inl (cA_48, 0, .inr (.inl (fun _ => 0)))), (q_47, .inl (cA_49, 0, .inl (fun _ => 0))), (q_50, .inl (cA_51, 3, .inl (fun _ => 0))), (q_52, .inl (cA_53, 4, .inr (.inr (.inr (.inr (sf4 q_54 q_59 q_64 q_69)))))), (q_54, .inr (2, [.int (-1), .int 0, .ref q_57])), (q_57, .inl (cA_58, 60, .inr (.inl (fun _ => 0)))), (q_59, .inr (2, [.int (-1), .int 0, .ref q_62])), (q_62, .inl (cA_63, 60, .inr (.inl (fun _ => 0)))), (q_64, .inr (2, [.int (-1), .int 0, .ref q_67])), (q_67, .inl (cA_68, 60, .inr (.inl (fun _ => 0)))), (q_69, .inr (2, [.int (-1), .int 0, .ref q_72])), (q_72, .inl (cA_73, 60, .inr (.inl (fun _ => 0)))), (q_74, .inr (4, [.ref q_77, .ref q_78, .ref q_79])), (q_77, .inl (cA_80, 0, .inl (fun _ => 0))), (q_78, .inl (cA_81, 0, .inl (fun _ => 0))), (q_79, .inl (cA_82, 0, .inl (fun _ => 0))), (q_83, .inr (5, [.ref q_86])), (q_86, .inl (cA_87, 181, .inr (.inl (fun _ => 0)))), (q_88, .inl (cA_89, 16, .inl (fun _ => 0)))]) [0, 1, 2, 3, 4, 5, 6, 7, 8, 9, 10, 11, 12, 13, 14, 15, 16, 17, 18, 19, 20, 21, 22, 23, 24, 25, 26, 27, 28, 29, 30, 31, 32, 33, 34, 35, 36, 37, 38] (by decide) rfl
  have hK9 := hK.sub (tys' := [(cA_5, .byte), (cA_13, .int), (cA_14, .int), (cA_15, .long), (cA_16, .long), (cA_25, .long), (cA_26, .int), (cA_28, .object RX2), (cA_34, .long), (cA_35, .int), (cA_41, .long), (cA_42, .int), (cA_48, .long), (cA_49, .int), (cA_51, .boolean), (cA_53, .object RX3), (cA_58, .long), (cA_63, .long), (cA_68, .long), (cA_73, .long), (cA_80, .int), (cA_81, .int), (cA_82, .byte), (cA_87, .long), (cA_89, .int)]) [0, 1, 2, 3, 4, 5, 6, 7, 8, 9, 10, 11, 12, 13, 14, 15, 16, 17, 18, 19, 20, 21, 22, 23, 24] rfl
  exact W.vret hx hb hr (fun t ht hW => ⟨⟨(), rfl, trivial, q_1, q_4, q_6, q_9, q_10, q_11, q_12, q_17, q_20, q_23, q_24, q_27, q_29, q_32, q_33, q_36, q_39, q_40, q_43, q_46, q_47, q_50, q_52, q_54, q_57, q_59, q_62, q_64, q_67, q_69, q_72, q_74, q_77, q_78, q_79, q_83, q_86, q_88, cA_5, cA_13, cA_14, cA_15, cA_16, cA_25, cA_26, cA_28, cA_34, cA_35, cA_41, cA_42, cA_48, cA_49, cA_51, cA_53, cA_58, cA_63, cA_68, cA_73, cA_80, cA_81, cA_82, cA_87, cA_89, by rw [ht]; exact hP9, va_K.moved hW.alike hK9, hD9⟩, hS.F ht⟩) hS.2.2 dX9_init_183
end
section
def monthsF : Nat → Int32 := (upd (upd (upd (upd (upd (upd (upd (upd (upd (upd (upd (upd (fun _ => 0) (0 : Int32).toNatClampNeg 31) (1 : Int32).toNatClampNeg 28) (2 : Int32).toNatClampNeg 31) (3 : Int32).toNatClampNeg 30) (4 : Int32).toNatClampNeg 31) (5 : Int32).toNatClampNeg 30) (6 : Int32).toNatClampNeg 31) (7 : Int32).toNatClampNeg 31) (8 : Int32).toNatClampNeg 30) (9 : Int32).toNatClampNeg 31) (10 : Int32).toNatClampNeg 30) (11 : Int32).toNatClampNeg 31)
def manyF : Nat → Int32 := (upd (upd (upd (upd (fun _ => 0) (0 : Int32).toNatClampNeg (-1)) (1 : Int32).toNatClampNeg (-1)) (2 : Int32).toNatClampNeg (-1)) (3 : Int32).toNatClampNeg (-1))
theorem monthsF_eq : ∀ j, j < 12 → monthsF j = nI ([31, 28, 31, 30, 31, 30, 31, 31, 30, 31, 30, 31].getD j 0) := by decide +kernel
theorem manyF_eq : ∀ j, j < 4 → manyF j = -1 := by decide +kernel
theorem dX10_init_0 : decode cX10_init 0 = .ok (.aload_n 0, 1) := by decide +kernel
theorem dX10_init_1 : decode cX10_init 1 = .ok (.invokespecial 3, 3) := by decide +kernel
theorem dX10_init_4 : decode cX10_init 4 = .ok (.aload_n 0, 1) := by decide +kernel
theorem dX10_init_5 : decode cX10_init 5 = .ok (.sipush 1875, 3) := by decide +kernel
theorem dX10_init_8 : decode cX10_init 8 = .ok (.newarray .int, 2) := by decide +kernel
theorem dX10_init_10 : decode cX10_init 10 = .ok (.putfield 9, 3) := by decide +kernel
theorem dX10_init_13 : decode cX10_init 13 = .ok (.aload_n 0, 1) := by decide +kernel
theorem dX10_init_14 : decode cX10_init 14 = .ok (.sipush 5625, 3) := by decide +kernel
theorem dX10_init_17 : decode cX10_init 17 = .ok (.newarray .int, 2) := by decide +kernel
theorem dX10_init_19 : decode cX10_init 19 = .ok (.putfield 13, 3) := by decide +kernel
theorem dX10_init_22 : decode cX10_init 22 = .ok (.aload_n 0, 1) := by decide +kernel
theorem dX10_init_23 : decode cX10_init 23 = .ok (.iconst 3, 1) := by decide +kernel
theorem dX10_init_24 : decode cX10_init 24 = .ok (.newarray .boolean, 2) := by decide +kernel
theorem dX10_init_26 : decode cX10_init 26 = .ok (.putfield 16, 3) := by decide +kernel
theorem dX10_init_29 : decode cX10_init 29 = .ok (.aload_n 0, 1) := by decide +kernel
theorem dX10_init_30 : decode cX10_init 30 = .ok (.sipush 20000, 3) := by decide +kernel
theorem dX10_init_33 : decode cX10_init 33 = .ok (.newarray .int, 2) := by decide +kernel
theorem dX10_init_35 : decode cX10_init 35 = .ok (.putfield 20, 3) := by decide +kernel
theorem dX10_init_38 : decode cX10_init 38 = .ok (.aload_n 0, 1) := by decide +kernel
theorem dX10_init_39 : decode cX10_init 39 = .ok (.sipush 1200, 3) := by decide +kernel
theorem dX10_init_42 : decode cX10_init 42 = .ok (.newarray .byte, 2) := by decide +kernel
theorem dX10_init_44 : decode cX10_init 44 = .ok (.putfield 23, 3) := by decide +kernel
theorem dX10_init_47 : decode cX10_init 47 = .ok (.aload_n 0, 1) := by decide +kernel
theorem dX10_init_48 : decode cX10_init 48 = .ok (.iconst 5, 1) := by decide +kernel
theorem dX10_init_49 : decode cX10_init 49 = .ok (.newarray .int, 2) := by decide +kernel
theorem dX10_init_51 : decode cX10_init 51 = .ok (.putfield 27, 3) := by decide +kernel
theorem dX10_init_54 : decode cX10_init 54 = .ok (.aload_n 0, 1) := by decide +kernel
theorem dX10_init_55 : decode cX10_init 55 = .ok (.iconst (-1), 1) := by decide +kernel
theorem dX10_init_56 : decode cX10_init 56 = .ok (.putfield 30, 3) := by decide +kernel
theorem dX10_init_59 : decode cX10_init 59 = .ok (.aload_n 0, 1) := by decide +kernel
theorem dX10_init_60 : decode cX10_init 60 = .ok (.sipush 1875, 3) := by decide +kernel
theorem dX10_init_63 : decode cX10_init 63 = .ok (.newarray .int, 2) := by decide +kernel
theorem dX10_init_65 : decode cX10_init 65 = .ok (.putfield 34, 3) := by decide +kernel
theorem dX10_init_68 : decode cX10_init 68 = .ok (.aload_n 0, 1) := by decide +kernel
theorem dX10_init_69 : decode cX10_init 69 = .ok (.bipush 78, 2) := by decide +kernel
theorem dX10_init_71 : decode cX10_init 71 = .ok (.newarray .int, 2) := by decide +kernel
theorem dX10_init_73 : decode cX10_init 73 = .ok (.putfield 37, 3) := by decide +kernel
theorem dX10_init_76 : decode cX10_init 76 = .ok (.aload_n 0, 1) := by decide +kernel
theorem dX10_init_77 : decode cX10_init 77 = .ok (.bipush 12, 2) := by decide +kernel
theorem dX10_init_79 : decode cX10_init 79 = .ok (.newarray .int, 2) := by decide +kernel
theorem dX10_init_81 : decode cX10_init 81 = .ok (.putfield 40, 3) := by decide +kernel
theorem dX10_init_84 : decode cX10_init 84 = .ok (.aload_n 0, 1) := by decide +kernel
theorem dX10_init_85 : decode cX10_init 85 = .ok (.bipush 26, 2) := by decide +kernel
theorem dX10_init_87 : decode cX10_init 87 = .ok (.newarray .boolean, 2) := by decide +kernel
theorem dX10_init_89 : decode cX10_init 89 = .ok (.putfield 43, 3) := by decide +kernel
theorem dX10_init_92 : decode cX10_init 92 = .ok (.aload_n 0, 1) := by decide +kernel
theorem dX10_init_93 : decode cX10_init 93 = .ok (.bipush 16, 2) := by decide +kernel
theorem dX10_init_95 : decode cX10_init 95 = .ok (.newarray .int, 2) := by decide +kernel
theorem dX10_init_97 : decode cX10_init 97 = .ok (.putfield 46, 3) := by decide +kernel
theorem dX10_init_100 : decode cX10_init 100 = .ok (.aload_n 0, 1) := by decide +kernel
theorem dX10_init_101 : decode cX10_init 101 = .ok (.sipush 20000, 3) := by decide +kernel
theorem dX10_init_104 : decode cX10_init 104 = .ok (.newarray .int, 2) := by decide +kernel
theorem dX10_init_106 : decode cX10_init 106 = .ok (.putfield 49, 3) := by decide +kernel
theorem dX10_init_109 : decode cX10_init 109 = .ok (.aload_n 0, 1) := by decide +kernel
theorem dX10_init_110 : decode cX10_init 110 = .ok (.sipush 20000, 3) := by decide +kernel
theorem dX10_init_113 : decode cX10_init 113 = .ok (.newarray .int, 2) := by decide +kernel
theorem dX10_init_115 : decode cX10_init 115 = .ok (.putfield 52, 3) := by decide +kernel
theorem dX10_init_118 : decode cX10_init 118 = .ok (.aload_n 0, 1) := by decide +kernel
theorem dX10_init_119 : decode cX10_init 119 = .ok (.bipush 12, 2) := by decide +kernel
theorem dX10_init_121 : decode cX10_init 121 = .ok (.newarray .int, 2) := by decide +kernel
theorem dX10_init_123 : decode cX10_init 123 = .ok (.dup, 1) := by decide +kernel
theorem dX10_init_124 : decode cX10_init 124 = .ok (.iconst 0, 1) := by decide +kernel
theorem dX10_init_125 : decode cX10_init 125 = .ok (.bipush 31, 2) := by decide +kernel
theorem dX10_init_127 : decode cX10_init 127 = .ok (.iastore, 1) := by decide +kernel
theorem dX10_init_128 : decode cX10_init 128 = .ok (.dup, 1) := by decide +kernel
theorem dX10_init_129 : decode cX10_init 129 = .ok (.iconst 1, 1) := by decide +kernel
theorem dX10_init_130 : decode cX10_init 130 = .ok (.bipush 28, 2) := by decide +kernel
theorem dX10_init_132 : decode cX10_init 132 = .ok (.iastore, 1) := by decide +kernel
theorem dX10_init_133 : decode cX10_init 133 = .ok (.dup, 1) := by decide +kernel
theorem dX10_init_134 : decode cX10_init 134 = .ok (.iconst 2, 1) := by decide +kernel
theorem dX10_init_135 : decode cX10_init 135 = .ok (.bipush 31, 2) := by decide +kernel
theorem dX10_init_137 : decode cX10_init 137 = .ok (.iastore, 1) := by decide +kernel
theorem dX10_init_138 : decode cX10_init 138 = .ok (.dup, 1) := by decide +kernel
theorem dX10_init_139 : decode cX10_init 139 = .ok (.iconst 3, 1) := by decide +kernel
theorem dX10_init_140 : decode cX10_init 140 = .ok (.bipush 30, 2) := by decide +kernel
theorem dX10_init_142 : decode cX10_init 142 = .ok (.iastore, 1) := by decide +kernel
theorem dX10_init_143 : decode cX10_init 143 = .ok (.dup, 1) := by decide +kernel
theorem dX10_init_144 : decode cX10_init 144 = .ok (.iconst 4, 1) := by decide +kernel
theorem dX10_init_145 : decode cX10_init 145 = .ok (.bipush 31, 2) := by decide +kernel
theorem dX10_init_147 : decode cX10_init 147 = .ok (.iastore, 1) := by decide +kernel
theorem dX10_init_148 : decode cX10_init 148 = .ok (.dup, 1) := by decide +kernel
theorem dX10_init_149 : decode cX10_init 149 = .ok (.iconst 5, 1) := by decide +kernel
theorem dX10_init_150 : decode cX10_init 150 = .ok (.bipush 30, 2) := by decide +kernel
theorem dX10_init_152 : decode cX10_init 152 = .ok (.iastore, 1) := by decide +kernel
theorem dX10_init_153 : decode cX10_init 153 = .ok (.dup, 1) := by decide +kernel
theorem dX10_init_154 : decode cX10_init 154 = .ok (.bipush 6, 2) := by decide +kernel
theorem dX10_init_156 : decode cX10_init 156 = .ok (.bipush 31, 2) := by decide +kernel
theorem dX10_init_158 : decode cX10_init 158 = .ok (.iastore, 1) := by decide +kernel
theorem dX10_init_159 : decode cX10_init 159 = .ok (.dup, 1) := by decide +kernel
theorem dX10_init_160 : decode cX10_init 160 = .ok (.bipush 7, 2) := by decide +kernel
theorem dX10_init_162 : decode cX10_init 162 = .ok (.bipush 31, 2) := by decide +kernel
theorem dX10_init_164 : decode cX10_init 164 = .ok (.iastore, 1) := by decide +kernel
theorem dX10_init_165 : decode cX10_init 165 = .ok (.dup, 1) := by decide +kernel
theorem dX10_init_166 : decode cX10_init 166 = .ok (.bipush 8, 2) := by decide +kernel
theorem dX10_init_168 : decode cX10_init 168 = .ok (.bipush 30, 2) := by decide +kernel
theorem dX10_init_170 : decode cX10_init 170 = .ok (.iastore, 1) := by decide +kernel
theorem dX10_init_171 : decode cX10_init 171 = .ok (.dup, 1) := by decide +kernel
theorem dX10_init_172 : decode cX10_init 172 = .ok (.bipush 9, 2) := by decide +kernel
theorem dX10_init_174 : decode cX10_init 174 = .ok (.bipush 31, 2) := by decide +kernel
theorem dX10_init_176 : decode cX10_init 176 = .ok (.iastore, 1) := by decide +kernel
theorem dX10_init_177 : decode cX10_init 177 = .ok (.dup, 1) := by decide +kernel
theorem dX10_init_178 : decode cX10_init 178 = .ok (.bipush 10, 2) := by decide +kernel
theorem dX10_init_180 : decode cX10_init 180 = .ok (.bipush 30, 2) := by decide +kernel
theorem dX10_init_182 : decode cX10_init 182 = .ok (.iastore, 1) := by decide +kernel
theorem dX10_init_183 : decode cX10_init 183 = .ok (.dup, 1) := by decide +kernel
theorem dX10_init_184 : decode cX10_init 184 = .ok (.bipush 11, 2) := by decide +kernel
theorem dX10_init_186 : decode cX10_init 186 = .ok (.bipush 31, 2) := by decide +kernel
theorem dX10_init_188 : decode cX10_init 188 = .ok (.iastore, 1) := by decide +kernel
theorem dX10_init_189 : decode cX10_init 189 = .ok (.putfield 55, 3) := by decide +kernel
theorem dX10_init_192 : decode cX10_init 192 = .ok (.aload_n 0, 1) := by decide +kernel
theorem dX10_init_193 : decode cX10_init 193 = .ok (.sipush 201, 3) := by decide +kernel
theorem dX10_init_196 : decode cX10_init 196 = .ok (.newarray .long, 2) := by decide +kernel
theorem dX10_init_198 : decode cX10_init 198 = .ok (.putfield 58, 3) := by decide +kernel
theorem dX10_init_201 : decode cX10_init 201 = .ok (.aload_n 0, 1) := by decide +kernel
theorem dX10_init_202 : decode cX10_init 202 = .ok (.sipush 201, 3) := by decide +kernel
theorem dX10_init_205 : decode cX10_init 205 = .ok (.newarray .long, 2) := by decide +kernel
theorem dX10_init_207 : decode cX10_init 207 = .ok (.putfield 62, 3) := by decide +kernel
theorem dX10_init_210 : decode cX10_init 210 = .ok (.aload_n 0, 1) := by decide +kernel
theorem dX10_init_211 : decode cX10_init 211 = .ok (.iconst 4, 1) := by decide +kernel
theorem dX10_init_212 : decode cX10_init 212 = .ok (.newarray .int, 2) := by decide +kernel
theorem dX10_init_214 : decode cX10_init 214 = .ok (.dup, 1) := by decide +kernel
theorem dX10_init_215 : decode cX10_init 215 = .ok (.iconst 0, 1) := by decide +kernel
theorem dX10_init_216 : decode cX10_init 216 = .ok (.iconst (-1), 1) := by decide +kernel
theorem dX10_init_217 : decode cX10_init 217 = .ok (.iastore, 1) := by decide +kernel
theorem dX10_init_218 : decode cX10_init 218 = .ok (.dup, 1) := by decide +kernel
theorem dX10_init_219 : decode cX10_init 219 = .ok (.iconst 1, 1) := by decide +kernel
theorem dX10_init_220 : decode cX10_init 220 = .ok (.iconst (-1), 1) := by decide +kernel
theorem dX10_init_221 : decode cX10_init 221 = .ok (.iastore, 1) := by decide +kernel
theorem dX10_init_222 : decode cX10_init 222 = .ok (.dup, 1) := by decide +kernel
theorem dX10_init_223 : decode cX10_init 223 = .ok (.iconst 2, 1) := by decide +kernel
theorem dX10_init_224 : decode cX10_init 224 = .ok (.iconst (-1), 1) := by decide +kernel
theorem dX10_init_225 : decode cX10_init 225 = .ok (.iastore, 1) := by decide +kernel
theorem dX10_init_226 : decode cX10_init 226 = .ok (.dup, 1) := by decide +kernel
theorem dX10_init_227 : decode cX10_init 227 = .ok (.iconst 3, 1) := by decide +kernel
theorem dX10_init_228 : decode cX10_init 228 = .ok (.iconst (-1), 1) := by decide +kernel
theorem dX10_init_229 : decode cX10_init 229 = .ok (.iastore, 1) := by decide +kernel
theorem dX10_init_230 : decode cX10_init 230 = .ok (.putfield 65, 3) := by decide +kernel
theorem dX10_init_233 : decode cX10_init 233 = .ok (.aload_n 0, 1) := by decide +kernel
theorem dX10_init_234 : decode cX10_init 234 = .ok (.iconst 4, 1) := by decide +kernel
theorem dX10_init_235 : decode cX10_init 235 = .ok (.newarray .int, 2) := by decide +kernel
theorem dX10_init_237 : decode cX10_init 237 = .ok (.putfield 68, 3) := by decide +kernel
theorem dX10_init_240 : decode cX10_init 240 = .ok (.aload_n 0, 1) := by decide +kernel
theorem dX10_init_241 : decode cX10_init 241 = .ok (.sipush 240, 3) := by decide +kernel
theorem dX10_init_244 : decode cX10_init 244 = .ok (.newarray .long, 2) := by decide +kernel
theorem dX10_init_246 : decode cX10_init 246 = .ok (.putfield 71, 3) := by decide +kernel
theorem dX10_init_249 : decode cX10_init 249 = .ok (.aload_n 0, 1) := by decide +kernel
theorem dX10_init_250 : decode cX10_init 250 = .ok (.bipush 60, 2) := by decide +kernel
theorem dX10_init_252 : decode cX10_init 252 = .ok (.newarray .long, 2) := by decide +kernel
theorem dX10_init_254 : decode cX10_init 254 = .ok (.putfield 74, 3) := by decide +kernel
theorem dX10_init_257 : decode cX10_init 257 = .ok (.return_, 1) := by decide +kernel
def uX10_init : List Cond := .code yX10_init cX10_init 1 none :: ([.methodLink RX10 3 objectInit, .instanceMethod objectInit, .code objectInit ⟨#[0xb1]⟩ 1 none, .arrayClass .int, .fieldLink RX10 9 "LuckyTicketModel" "world" "[I", .fieldLink RX10 13 "LuckyTicketModel" "images" "[I", .arrayClass .boolean, .fieldLink RX10 16 "LuckyTicketModel" "hasImage" "[Z", .fieldLink RX10 20 "LuckyTicketModel" "luck" "[I", .arrayClass .byte, .fieldLink RX10 23 "LuckyTicketModel" "tape" "[B", .fieldLink RX10 27 "LuckyTicketModel" "five" "[I", .fieldLink RX10 30 "LuckyTicketModel" "faultPlace" "I", .fieldLink RX10 34 "LuckyTicketModel" "fresh" "[I", .fieldLink RX10 37 "LuckyTicketModel" "waits" "[I", .fieldLink RX10 40 "LuckyTicketModel" "figures" "[I", .fieldLink RX10 43 "LuckyTicketModel" "pile" "[Z", .fieldLink RX10 46 "LuckyTicketModel" "times" "[I", .fieldLink RX10 49 "LuckyTicketModel" "far" "[I", .fieldLink RX10 52 "LuckyTicketModel" "queue" "[I", .fieldLink RX10 55 "LuckyTicketModel" "months" "[I", .arrayClass .long, .fieldLink RX10 58 "LuckyTicketModel" "ways" "[J", .fieldLink RX10 62 "LuckyTicketModel" "waysOn" "[J", .fieldLink RX10 65 "LuckyTicketModel" "many" "[I", .fieldLink RX10 68 "LuckyTicketModel" "width" "[I", .fieldLink RX10 71 "LuckyTicketModel" "numbers" "[J", .fieldLink RX10 74 "LuckyTicketModel" "moving" "[J"] ++ wsX100)
theorem iX10_init_X10 : ∀ w ∈ wsX100, w ∈ uX10_init := fun _ h => List.mem_cons_of_mem _ (List.mem_append_right _ h)
set_option maxHeartbeats 4000000 in
set_option maxRecDepth 100000 in
theorem kX10_init (l : Launch) (dC : Nat → ClassId) (dI : Nat → Nat → Nat) (h0 : Nat) (sz : Nat) : Met l yX10_init uX10_init ({ frames := 1, cells := 20, slots := 71437, locals := 12 }) (va_Pc [.ref h0] (hw (dC, dI) vwCl [(h0, .inr (8, [.int 0, .null, .null, .null, .null, .null, .int 0, .null, .int 0, .int 0, .int 0, .int 0, .int 0, .int 0, .int 0, .null, .null, .int 0, .int 0, .int 0, .null, .null, .long 0, .null, .null, .null, .null, .null, .null, .null, .null, .null, .null]))] [] sz)) (va_Qv (fun (_ : Unit) => True) (fun (_ : Unit) t => ∃ (q_1 : Nat) (q_3 : Nat) (q_5 : Nat) (q_7 : Nat) (q_9 : Nat) (q_11 : Nat) (q_13 : Nat) (q_15 : Nat) (q_17 : Nat) (q_19 : Nat) (q_21 : Nat) (q_23 : Nat) (q_25 : Nat) (q_27 : Nat) (q_29 : Nat) (q_31 : Nat) (q_33 : Nat) (q_35 : Nat) (q_37 : Nat) (q_39 : Nat) (cA_2 : ClassId) (cA_4 : ClassId) (cA_6 : ClassId) (cA_8 : ClassId) (cA_10 : ClassId) (cA_12 : ClassId) (cA_14 : ClassId) (cA_16 : ClassId) (cA_18 : ClassId) (cA_20 : ClassId) (cA_22 : ClassId) (cA_24 : ClassId) (cA_26 : ClassId) (cA_28 : ClassId) (cA_30 : ClassId) (cA_32 : ClassId) (cA_34 : ClassId) (cA_36 : ClassId) (cA_38 : ClassId) (cA_40 : ClassId), va_P (dC, dI) vwCl [(h0, .inr (8, [.int 0, .ref q_1, .ref q_3, .ref q_5, .ref q_7, .ref q_9, .int 0, .ref q_11, .int 0, .int 0, .int 0, .int 0, .int 0, .int 0, .int (-1), .ref q_13, .ref q_15, .int 0, .int 0, .int 0, .ref q_17, .ref q_19, .long 0, .ref q_21, .ref q_23, .ref q_25, .ref q_27, .ref q_29, .ref q_31, .ref q_33, .ref q_35, .ref q_37, .ref q_39])), (q_1, .inl (cA_2, 1875, .inl (fun _ => 0))), (q_3, .inl (cA_4, 5625, .inl (fun _ => 0))), (q_5, .inl (cA_6, 3, .inl (fun _ => 0))), (q_7, .inl (cA_8, 20000, .inl (fun _ => 0))), (q_9, .inl (cA_10, 1200, .inl (fun _ => 0))), (q_11, .inl (cA_12, 5, .inl (fun _ => 0))), (q_13, .inl (cA_14, 1875, .inl (fun _ => 0))), (q_15, .inl (cA_16, 78, .inl (fun _ => 0))), (q_17, .inl (cA_18, 12, .inl (fun _ => 0))), (q_19, .inl (cA_20, 26, .inl (fun _ => 0))), (q_21, .inl (cA_22, 16, .inl (fun _ => 0))), (q_23, .inl (cA_24, 20000, .inl (fun _ => 0))), (q_25, .inl (cA_26, 20000, .inl (fun _ => 0))), (q_27, .inl (cA_28, 12, .inl monthsF)), (q_29, .inl (cA_30, 201, .inr (.inl (fun _ => 0)))), (q_31, .inl (cA_32, 201, .inr (.inl (fun _ => 0)))), (q_33, .inl (cA_34, 4, .inl manyF)), (q_35, .inl (cA_36, 4, .inl (fun _ => 0))), (q_37, .inl (cA_38, 240, .inr (.inl (fun _ => 0)))), (q_39, .inl (cA_40, 60, .inr (.inl (fun _ => 0))))] t.heap ∧ va_K (dC, dI) vwCl [(cA_2, .int), (cA_4, .int), (cA_6, .boolean), (cA_8, .int), (cA_10, .byte), (cA_12, .int), (cA_14, .int), (cA_16, .int), (cA_18, .int), (cA_20, .boolean), (cA_22, .int), (cA_24, .int), (cA_26, .int), (cA_28, .int), (cA_30, .long), (cA_32, .long), (cA_34, .int), (cA_36, .int), (cA_38, .long), (cA_40, .long)] t ∧ va_D (va_A [(h0, .inr (8, [.int 0, .null, .null, .null, .null, .null, .int 0, .null, .int 0, .int 0, .int 0, .int 0, .int 0, .int 0, .int 0, .null, .null, .int 0, .int 0, .int 0, .null, .null, .long 0, .null, .null, .null, .null, .null, .null, .null, .null, .null, .null]))] sz) [(h0, .inr (8, [.int 0, .ref q_1, .ref q_3, .ref q_5, .ref q_7, .ref q_9, .int 0, .ref q_11, .int 0, .int 0, .int 0, .int 0, .int 0, .int 0, .int (-1), .ref q_13, .ref q_15, .int 0, .int 0, .int 0, .ref q_17, .ref q_19, .long 0, .ref q_21, .ref q_23, .ref q_25, .ref q_27, .ref q_29, .ref q_31, .ref q_33, .ref q_35, .ref q_37, .ref q_39])), (q_1, .inl (cA_2, 1875, .inl (fun _ => 0))), (q_3, .inl (cA_4, 5625, .inl (fun _ => 0))), (q_5, .inl (cA_6, 3, .inl (fun _ => 0))), (q_7, .inl (cA_8, 20000, .inl (fun _ => 0))), (q_9, .inl (cA_10, 1200, .inl (fun _ => 0))), (q_11, .inl (cA_12, 5, .inl (fun _ => 0))), (q_13, .inl (cA_14, 1875, .inl (fun _ => 0))), (q_15, .inl (cA_16, 78, .inl (fun _ => 0))), (q_17, .inl (cA_18, 12, .inl (fun _ => 0))), (q_19, .inl (cA_20, 26, .inl (fun _ => 0))), (q_21, .inl (cA_22, 16, .inl (fun _ => 0))), (q_23, .inl (cA_24, 20000, .inl (fun _ => 0))), (q_25, .inl (cA_26, 20000, .inl (fun _ => 0))), (q_27, .inl (cA_28, 12, .inl monthsF)), (q_29, .inl (cA_30, 201, .inr (.inl (fun _ => 0)))), (q_31, .inl (cA_32, 201, .inr (.inl (fun _ => 0)))), (q_33, .inl (cA_34, 4, .inl manyF)), (q_35, .inl (cA_36, 4, .inl (fun _ => 0))), (q_37, .inl (cA_38, 240, .inr (.inl (fun _ => 0)))), (q_39, .inl (cA_40, 60, .inr (.inl (fun _ => 0))))]) (va_A [(h0, .inr (8, [.int 0, .null, .null, .null, .null, .null, .int 0, .null, .int 0, .int 0, .int 0, .int 0, .int 0, .int 0, .int 0, .null, .null, .int 0, .int 0, .int 0, .null, .null, .long 0, .null, .null, .null, .null, .null, .null, .null, .null, .null, .null]))] sz)) 20 71437 (va_A [(h0, .inr (8, [.int 0, .null, .null, .null, .null, .null, .int 0, .null, .int 0, .int 0, .int 0, .int 0, .int 0, .int 0, .int 0, .null, .null, .int 0, .int 0, .int 0, .null, .null, .long 0, .null, .null, .null, .null, .null, .null, .null, .null, .null, .null]))] sz) := by
  refine Met.ofW (cc := cX10_init) (maxL := 1) (ret := none) (by decide) rfl ?_
  intro p e s m args below meth c s₁ B hml hv
  obtain ⟨rfl, hsz, hP, hK, hD0, hN⟩ := hv
  have hx := B.exec
  have hb := B.bytes
  have hr := B.returns
  have hts := atoms_spec (ws := uX10_init) B.pre
  have hown : s.vm.findClass RX10 = some m.cls := findClass_of_methodNamed B.named
  have hlocks := B.notSynchronized
  have hin : meth.name = "<init>" := (name_of_methodNamed B.named B.method).1
  subst hsz
  have hD := hD0.self (sz := s.heap.size)
  generalize hAe : va_A [(h0, .inr (8, [.int 0, .null, .null, .null, .null, .null, .int 0, .null, .int 0, .int 0, .int 0, .int 0, .int 0, .int 0, .int 0, .null, .null, .int 0, .int 0, .int 0, .null, .null, .long 0, .null, .null, .null, .null, .null, .null, .null, .null, .null, .null]))] s.heap.size = A at hD ⊢
  have hA : ∀ q : Nat, s.heap.size ≤ q → A q := fun q h => by rw [← hAe]; exact Or.inr h
  have hS : va_S A s.heap s.heap [] := va_S.rf
  have hP : va_P (dC, dI) vwCl [(h0, .inr (8, [.int 0, .null, .null, .null, .null, .null, .int 0, .null, .int 0, .int 0, .int 0, .int 0, .int 0, .int 0, .int 0, .null, .null, .int 0, .int 0, .int 0, .null, .null, .long 0, .null, .null, .null, .null, .null, .null, .null, .null, .null, .null]))] s.heap := hP
  have hl := lv_entry ([.ref h0]) (n := 1) (Nat.le_of_ble_eq_true rfl)
  rw [lg_entry_eq]
  generalize (lg_sl ([.ref h0]) ++ List.replicate (1 - (lg_sl ([.ref h0])).length) Slot.unset).toArray = ls at hl ⊢
  have hl : lv_has ls 1 [(0, .ref h0)] := hl
  refine lv_aload_n hx hb dX10_init_0 rfl (lv_at hl 0 rfl) ?_
  refine W.objInit hx hb hown (hts (.methodLink RX10 3 objectInit) (List.mem_of_getElem? (i := 1) rfl)) (hts (.instanceMethod objectInit) (List.mem_of_getElem? (i := 2) rfl)) (hts (.code objectInit ⟨#[0xb1]⟩ 1 none) (List.mem_of_getElem? (i := 3) rfl)) rfl (by rw [hml]; exact hl.1) rfl dX10_init_1 (Nat.le_of_ble_eq_true rfl) (Nat.le_of_ble_eq_true rfl) ?_
  refine W.eq (g2 := F0 m 4 ls []) rfl ?_
  refine lv_aload_n hx hb dX10_init_4 rfl (lv_at hl 0 rfl) ?_
  refine lv_sipush (v := 1875) hx hb dX10_init_5 (by decide) ?_
  refine va_newa (atype := .int) (ty := .int) (a0 := (1875, .inl (fun _ => 0))) (N' := 1875) hx hb (hts (.arrayClass .int) (List.mem_of_getElem? (i := 4) rfl)) rfl hK hP hD hS hA (fun cA => na_int cA 1875) (by decide) (by decide) (by decide) (lel 1 20 rfl) (lel 1875 71437 rfl) dX10_init_8 (fun q_1 cA_2 H hK hP hD hS => ?_)
  have hP : va_P (dC, dI) vwCl [(h0, .inr (8, [.int 0, .null, .null, .null, .null, .null, .int 0, .null, .int 0, .int 0, .int 0, .int 0, .int 0, .int 0, .int 0, .null, .null, .int 0, .int 0, .int 0, .null, .null, .long 0, .null, .null, .null, .null, .null, .null, .null, .null, .null, .null])), (q_1, .inl (cA_2, 1875, .inl (fun _ => 0)))] H := hP
  have hD : va_D A [(h0, .inr (8, [.int 0, .null, .null, .null, .null, .null, .int 0, .null, .int 0, .int 0, .int 0, .int 0, .int 0, .int 0, .int 0, .null, .null, .int 0, .int 0, .int 0, .null, .null, .long 0, .null, .null, .null, .null, .null, .null, .null, .null, .null, .null])), (q_1, .inl (cA_2, 1875, .inl (fun _ => 0)))] := hD
  have hK : va_K (dC, dI) vwCl [(cA_2, .int)] s := hK
  refine W.widen (k := 1) (n := 1875) (lel _ _ rfl) (lel _ _ rfl) ?_
  refine va_putF (D := (dC, dI)) (ci := 8) (v := .ref q_1) (ty := .array .int) (C := RX10) (T := TX10) (N := 33) hx hb hts iX10_init_X10 tyX10 tyX10_ok nmX10 hown hK hP hD hS 0 rfl rfl 1 (by decide) (hts (.fieldLink RX10 9 "LuckyTicketModel" "world" "[I") (List.mem_of_getElem? (i := 5) rfl)) (fun _ h9 => h9) rfl hin rfl (by decide +kernel) rfl rfl (Nat.le_of_ble_eq_true rfl) dX10_init_10 (fun H locs hP hD hS => ?_)
  have hP : va_P (dC, dI) vwCl [(h0, .inr (8, [.int 0, .ref q_1, .null, .null, .null, .null, .int 0, .null, .int 0, .int 0, .int 0, .int 0, .int 0, .int 0, .int 0, .null, .null, .int 0, .int 0, .int 0, .null, .null, .long 0, .null, .null, .null, .null, .null, .null, .null, .null, .null, .null])), (q_1, .inl (cA_2, 1875, .inl (fun _ => 0)))] H := hP
  have hD : va_D A [(h0, .inr (8, [.int 0, .ref q_1, .null, .null, .null, .null, .int 0, .null, .int 0, .int 0, .int 0, .int 0, .int 0, .int 0, .int 0, .null, .null, .int 0, .int 0, .int 0, .null, .null, .long 0, .null, .null, .null, .null, .null, .null, .null, .null, .null, .null])), (q_1, .inl (cA_2, 1875, .inl (fun _ => 0)))] := hD
  refine lv_aload_n hx hb dX10_init_13 rfl (lv_at hl 0 rfl) ?_
  refine lv_sipush (v := 5625) hx hb dX10_init_14 (by decide) ?_
  refine va_newa (atype := .int) (ty := .int) (a0 := (5625, .inl (fun _ => 0))) (N' := 5625) hx hb (hts (.arrayClass .int) (List.mem_of_getElem? (i := 4) rfl)) rfl hK hP hD hS hA (fun cA => na_int cA 5625) (by decide) (by decide) (by decide) (lel 2 20 rfl) (lel 7500 71437 rfl) dX10_init_17 (fun q_3 cA_4 H hK hP hD hS => ?_)
  have hP : va_P (dC, dI) vwCl [(h0, .inr (8, [.int 0, .ref q_1, .null, .null, .null, .null, .int 0, .null, .int 0, .int 0, .int 0, .int 0, .int 0, .int 0, .int 0, .null, .null, .int 0, .int 0, .int 0, .null, .null, .long 0, .null, .null, .null, .null, .null, .null, .null, .null, .null, .null])), (q_1, .inl (cA_2, 1875, .inl (fun _ => 0))), (q_3, .inl (cA_4, 5625, .inl (fun _ => 0)))] H := hP
  have hD : va_D A [(h0, .inr (8, [.int 0, .ref q_1, .null, .null, .null, .null, .int 0, .null, .int 0, .int 0, .int 0, .int 0, .int 0, .int 0, .int 0, .null, .null, .int 0, .int 0, .int 0, .null, .null, .long 0, .null, .null, .null, .null, .null, .null, .null, .null, .null, .null])), (q_1, .inl (cA_2, 1875, .inl (fun _ => 0))), (q_3, .inl (cA_4, 5625, .inl (fun _ => 0)))] := hD
  have hK : va_K (dC, dI) vwCl [(cA_2, .int), (cA_4, .int)] s := hK
  refine W.widen (k := 2) (n := 7500) (lel _ _ rfl) (lel _ _ rfl) ?_
  refine va_putF (D := (dC, dI)) (ci := 8) (v := .ref q_3) (ty := .array .int) (C := RX10) (T := TX10) (N := 33) hx hb hts iX10_init_X10 tyX10 tyX10_ok nmX10 hown hK hP hD hS 0 rfl rfl 2 (by decide) (hts (.fieldLink RX10 13 "LuckyTicketModel" "images" "[I") (List.mem_of_getElem? (i := 6) rfl)) (fun _ h9 => h9) rfl hin rfl (by decide +kernel) rfl rfl (Nat.le_of_ble_eq_true rfl) dX10_init_19 (fun H locs hP hD hS => ?_)
  have hP : va_P (dC, dI) vwCl [(h0, .inr (8, [.int 0, .ref q_1, .ref q_3, .null, .null, .null, .int 0, .null, .int 0, .int 0, .int 0, .int 0, .int 0, .int 0, .int 0, .null, .null, .int 0, .int 0, .int 0, .null, .null, .long 0, .null, .null, .null, .null, .null, .null, .null, .null, .null, .null])), (q_1, .inl (cA_2, 1875, .inl (fun _ => 0))), (q_3, .inl (cA_4, 5625, .inl (fun _ => 0)))] H := hP
  have hD : va_D A [(h0, .inr (8, [.int 0, .ref q_1, .ref q_3, .null, .null, .null, .int 0, .null, .int 0, .int 0, .int 0, .int 0, .int 0, .int 0, .int 0, .null, .null, .int 0, .int 0, .int 0, .null, .null, .long 0, .null, .null, .null, .null, .null, .null, .null, .null, .null, .null])), (q_1, .inl (cA_2, 1875, .inl (fun _ => 0))), (q_3, .inl (cA_4, 5625, .inl (fun _ => 0)))] := hD
  refine lv_aload_n hx hb dX10_init_22 rfl (lv_at hl 0 rfl) ?_
  refine lv_iconst (v := 3) hx hb dX10_init_23 (by decide) ?_
  refine va_newa (atype := .boolean) (ty := .boolean) (a0 := (3, .inl (fun _ => 0))) (N' := 3) hx hb (hts (.arrayClass .boolean) (List.mem_of_getElem? (i := 7) rfl)) rfl hK hP hD hS hA (fun cA => na_boolean cA 3) (by decide) (by decide) (by decide) (lel 3 20 rfl) (lel 7503 71437 rfl) dX10_init_24 (fun q_5 cA_6 H hK hP hD hS => ?_)
  have hP : va_P (dC, dI) vwCl [(h0, .inr (8, [.int 0, .ref q_1, .ref q_3, .null, .null, .null, .int 0, .null, .int 0, .int 0, .int 0, .int 0, .int 0, .int 0, .int 0, .null, .null, .int 0, .int 0, .int 0, .null, .null, .long 0, .null, .null, .null, .null, .null, .null, .null, .null, .null, .null])), (q_1, .inl (cA_2, 1875, .inl (fun _ => 0))), (q_3, .inl (cA_4, 5625, .inl (fun _ => 0))), (q_5, .inl (cA_6, 3, .inl (fun _ => 0)))] H := hP
  have hD : va_D A [(h0, .inr (8, [.int 0, .ref q_1, .ref q_3, .null, .null, .null, .int 0, .null, .int 0, .int 0, .int 0, .int 0, .int 0, .int 0, .int 0, .null, .null, .int 0, .int 0, .int 0, .null, .null, .long 0, .null, .null, .null, .null, .null, .null, .null, .null, .null, .null])), (q_1, .inl (cA_2, 1875, .inl (fun _ => 0))), (q_3, .inl (cA_4, 5625, .inl (fun _ => 0))), (q_5, .inl (cA_6, 3, .inl (fun _ => 0)))] := hD
  have hK : va_K (dC, dI) vwCl [(cA_2, .int), (cA_4, .int), (cA_6, .boolean)] s := hK
  refine W.widen (k := 3) (n := 7503) (lel _ _ rfl) (lel _ _ rfl) ?_
  refine va_putF (D := (dC, dI)) (ci := 8) (v := .ref q_5) (ty := .array .boolean) (C := RX10) (T := TX10) (N := 33) hx hb hts iX10_init_X10 tyX10 tyX10_ok nmX10 hown hK hP hD hS 0 rfl rfl 3 (by decide) (hts (.fieldLink RX10 16 "LuckyTicketModel" "hasImage" "[Z") (List.mem_of_getElem? (i := 8) rfl)) (fun _ h9 => h9) rfl hin rfl (by decide +kernel) rfl rfl (Nat.le_of_ble_eq_true rfl) dX10_init_26 (fun H locs hP hD hS => ?_)
  have hP : va_P (dC, dI) vwCl [(h0, .inr (8, [.int 0, .ref q_1, .ref q_3, .ref q_5, .null, .null, .int 0, .null, .int 0, .int 0, .int 0, .int 0, .int 0, .int 0, .int 0, .null, .null, .int 0, .int 0, .int 0, .null, .null, .long 0, .null, .null, .null, .null, .null, .null, .null, .null, .null, .null])), (q_1, .inl (cA_2, 1875, .inl (fun _ => 0))), (q_3, .inl (cA_4, 5625, .inl (fun _ => 0))), (q_5, .inl (cA_6, 3, .inl (fun _ => 0)))] H := hP
  have hD : va_D A [(h0, .inr (8, [.int 0, .ref q_1, .ref q_3, .ref q_5, .null, .null, .int 0, .null, .int 0, .int 0, .int 0, .int 0, .int 0, .int 0, .int 0, .null, .null, .int 0, .int 0, .int 0, .null, .null, .long 0, .null, .null, .null, .null, .null, .null, .null, .null, .null, .null])), (q_1, .inl (cA_2, 1875, .inl (fun _ => 0))), (q_3, .inl (cA_4, 5625, .inl (fun _ => 0))), (q_5, .inl (cA_6, 3, .inl (fun _ => 0)))] := hD
  refine lv_aload_n hx hb dX10_init_29 rfl (lv_at hl 0 rfl) ?_
  refine lv_sipush (v := 20000) hx hb dX10_init_30 (by decide) ?_
  refine va_newa (atype := .int) (ty := .int) (a0 := (20000, .inl (fun _ => 0))) (N' := 20000) hx hb (hts (.arrayClass .int) (List.mem_of_getElem? (i := 4) rfl)) rfl hK hP hD hS hA (fun cA => na_int cA 20000) (by decide) (by decide) (by decide) (lel 4 20 rfl) (lel 27503 71437 rfl) dX10_init_33 (fun q_7 cA_8 H hK hP hD hS => ?_)
  have hP : va_P (dC, dI) vwCl [(h0, .inr (8, [.int 0, .ref q_1, .ref q_3, .ref q_5, .null, .null, .int 0, .null, .int 0, .int 0, .int 0, .int 0, .int 0, .int 0, .int 0, .null, .null, .int 0, .int 0, .int 0, .null, .null, .long 0, .null, .null, .null, .null, .null, .null, .null, .null, .null, .null])), (q_1, .inl (cA_2, 1875, .inl (fun _ => 0))), (q_3, .inl (cA_4, 5625, .inl (fun _ => 0))), (q_5, .inl (cA_6, 3, .inl (fun _ => 0))), (q_7, .inl (cA_8, 20000, .inl (fun _ => 0)))] H := hP
  have hD : va_D A [(h0, .inr (8, [.int 0, .ref q_1, .ref q_3, .ref q_5, .null, .null, .int 0, .null, .int 0, .int 0, .int 0, .int 0, .int 0, .int 0, .int 0, .null, .null, .int 0, .int 0, .int 0, .null, .null, .long 0, .null, .null, .null, .null, .null, .null, .null, .null, .null, .null])), (q_1, .inl (cA_2, 1875, .inl (fun _ => 0))), (q_3, .inl (cA_4, 5625, .inl (fun _ => 0))), (q_5, .inl (cA_6, 3, .inl (fun _ => 0))), (q_7, .inl (cA_8, 20000, .inl (fun _ => 0)))] := hD
  have hK : va_K (dC, dI) vwCl [(cA_2, .int), (cA_4, .int), (cA_6, .boolean), (cA_8, .int)] s := hK
  refine W.widen (k := 4) (n := 27503) (lel _ _ rfl) (lel _ _ rfl) ?_
  refine va_putF (D := (dC, dI)) (ci := 8) (v := .ref q_7) (ty := .array .int) (C := RX10) (T := TX10) (N := 33) hx hb hts iX10_init_X10 tyX10 tyX10_ok nmX10 hown hK hP hD hS 0 rfl rfl 4 (by decide) (hts (.fieldLink RX10 20 "LuckyTicketModel" "luck" "[I") (List.mem_of_getElem? (i := 9) rfl)) (fun _ h9 => h9) rfl hin rfl (by decide +kernel) rfl rfl (Nat.le_of_ble_eq_true rfl) dX10_init_35 (fun H locs hP hD hS => ?_)
  have hP : va_P (dC, dI) vwCl [(h0, .inr (8, [.int 0, .ref q_1, .ref q_3, .ref q_5, .ref q_7, .null, .int 0, .null, .int 0, .int 0, .int 0, .int 0, .int 0, .int 0, .int 0, .null, .null, .int 0, .int 0, .int 0, .null, .null, .long 0, .null, .null, .null, .null, .null, .null, .null, .null, .null, .null])), (q_1, .inl (cA_2, 1875, .inl (fun _ => 0))), (q_3, .inl (cA_4, 5625, .inl (fun _ => 0))), (q_5, .inl (cA_6, 3, .inl (fun _ => 0))), (q_7, .inl (cA_8, 20000, .inl (fun _ => 0)))] H := hP
  have hD : va_D A [(h0, .inr (8, [.int 0, .ref q_1, .ref q_3, .ref q_5, .ref q_7, .null, .int 0, .null, .int 0, .int 0, .int 0, .int 0, .int 0, .int 0, .int 0, .null, .null, .int 0, .int 0, .int 0, .null, .null, .long 0, .null, .null, .null, .null, .null, .null, .null, .null, .null, .null])), (q_1, .inl (cA_2, 1875, .inl (fun _ => 0))), (q_3, .inl (cA_4, 5625, .inl (fun _ => 0))), (q_5, .inl (cA_6, 3, .inl (fun _ => 0))), (q_7, .inl (cA_8, 20000, .inl (fun _ => 0)))] := hD
  refine lv_aload_n hx hb dX10_init_38 rfl (lv_at hl 0 rfl) ?_
  refine lv_sipush (v := 1200) hx hb dX10_init_39 (by decide) ?_
  refine va_newa (atype := .byte) (ty := .byte) (a0 := (1200, .inl (fun _ => 0))) (N' := 1200) hx hb (hts (.arrayClass .byte) (List.mem_of_getElem? (i := 10) rfl)) rfl hK hP hD hS hA (fun cA => na_byte cA 1200) (by decide) (by decide) (by decide) (lel 5 20 rfl) (lel 28703 71437 rfl) dX10_init_42 (fun q_9 cA_10 H hK hP hD hS => ?_)
  have hP : va_P (dC, dI) vwCl [(h0, .inr (8, [.int 0, .ref q_1, .ref q_3, .ref q_5, .ref q_7, .null, .int 0, .null, .int 0, .int 0, .int 0, .int 0, .int 0, .int 0, .int 0, .null, .null, .int 0, .int 0, .int 0, .null, .null, .long 0, .null, .null, .null, .null, .null, .null, .null, .null, .null, .null])), (q_1, .inl (cA_2, 1875, .inl (fun _ => 0))), (q_3, .inl (cA_4, 5625, .inl (fun _ => 0))), (q_5, .inl (cA_6, 3, .inl (fun _ => 0))), (q_7, .inl (cA_8, 20000, .inl (fun _ => 0))), (q_9, .inl (cA_10, 1200, .inl (fun _ => 0)))] H := hP
  have hD : va_D A [(h0, .inr (8, [.int 0, .ref q_1, .ref q_3, .ref q_5, .ref q_7, .null, .int 0, .null, .int 0, .int 0, .int 0, .int 0, .int 0, .int 0, .int 0, .null, .null, .int 0, .int 0, .int 0, .null, .null, .long 0, .null, .null, .null, .null, .null, .null, .null, .null, .null, .null])), (q_1, .inl (cA_2, 1875, .inl (fun _ => 0))), (q_3, .inl (cA_4, 5625, .inl (fun _ => 0))), (q_5, .inl (cA_6, 3, .inl (fun _ => 0))), (q_7, .inl (cA_8, 20000, .inl (fun _ => 0))), (q_9, .inl (cA_10, 1200, .inl (fun _ => 0)))] := hD
  have hK : va_K (dC, dI) vwCl [(cA_2, .int), (cA_4, .int), (cA_6, .boolean), (cA_8, .int), (cA_10, .byte)] s := hK
  refine W.widen (k := 5) (n := 28703) (lel _ _ rfl) (lel _ _ rfl) ?_
  refine va_putF (D := (dC, dI)) (ci := 8) (v := .ref q_9) (ty := .array .byte) (C := RX10) (T := TX10) (N := 33) hx hb hts iX10_init_X10 tyX10 tyX10_ok nmX10 hown hK hP hD hS 0 rfl rfl 5 (by decide) (hts (.fieldLink RX10 23 "LuckyTicketModel" "tape" "[B") (List.mem_of_getElem? (i := 11) rfl)) (fun _ h9 => h9) rfl hin rfl (by decide +kernel) rfl rfl (Nat.le_of_ble_eq_true rfl) dX10_init_44 (fun H locs hP hD hS => ?_)
  have hP : va_P (dC, dI) vwCl [(h0, .inr (8, [.int 0, .ref q_1, .ref q_3, .ref q_5, .ref q_7, .ref q_9, .int 0, .null, .int 0, .int 0, .int 0, .int 0, .int 0, .int 0, .int 0, .null, .null, .int 0, .int 0, .int 0, .null, .null, .long 0, .null, .null, .null, .null, .null, .null, .null, .null, .null, .null])), (q_1, .inl (cA_2, 1875, .inl (fun _ => 0))), (q_3, .inl (cA_4, 5625, .inl (fun _ => 0))), (q_5, .inl (cA_6, 3, .inl (fun _ => 0))), (q_7, .inl (cA_8, 20000, .inl (fun _ => 0))), (q_9, .inl (cA_10, 1200, .inl (fun _ => 0)))] H := hP
  have hD : va_D A [(h0, .inr (8, [.int 0, .ref q_1, .ref q_3, .ref q_5, .ref q_7, .ref q_9, .int 0, .null, .int 0, .int 0, .int 0, .int 0, .int 0, .int 0, .int 0, .null, .null, .int 0, .int 0, .int 0, .null, .null, .long 0, .null, .null, .null, .null, .null, .null, .null, .null, .null, .null])), (q_1, .inl (cA_2, 1875, .inl (fun _ => 0))), (q_3, .inl (cA_4, 5625, .inl (fun _ => 0))), (q_5, .inl (cA_6, 3, .inl (fun _ => 0))), (q_7, .inl (cA_8, 20000, .inl (fun _ => 0))), (q_9, .inl (cA_10, 1200, .inl (fun _ => 0)))] := hD
  refine lv_aload_n hx hb dX10_init_47 rfl (lv_at hl 0 rfl) ?_
  refine lv_iconst (v := 5) hx hb dX10_init_48 (by decide) ?_
  refine va_newa (atype := .int) (ty := .int) (a0 := (5, .inl (fun _ => 0))) (N' := 5) hx hb (hts (.arrayClass .int) (List.mem_of_getElem? (i := 4) rfl)) rfl hK hP hD hS hA (fun cA => na_int cA 5) (by decide) (by decide) (by decide) (lel 6 20 rfl) (lel 28708 71437 rfl) dX10_init_49 (fun q_11 cA_12 H hK hP hD hS => ?_)
  have hP : va_P (dC, dI) vwCl [(h0, .inr (8, [.int 0, .ref q_1, .ref q_3, .ref q_5, .ref q_7, .ref q_9, .int 0, .null, .int 0, .int 0, .int 0, .int 0, .int 0, .int 0, .int 0, .null, .null, .int 0, .int 0, .int 0, .null, .null, .long 0, .null, .null, .null, .null, .null, .null, .null, .null, .null, .null])), (q_1, .inl (cA_2, 1875, .inl (fun _ => 0))), (q_3, .inl (cA_4, 5625, .inl (fun _ => 0))), (q_5, .inl (cA_6, 3, .inl (fun _ => 0))), (q_7, .inl (cA_8, 20000, .inl (fun _ => 0))), (q_9, .inl (cA_10, 1200, .inl (fun _ => 0))), (q_11, .inl (cA_12, 5, .inl (fun _ => 0)))] H := hP
  have hD : va_D A [(h0, .inr (8, [.int 0, .ref q_1, .ref q_3, .ref q_5, .ref q_7, .ref q_9, .int 0, .null, .int 0, .int 0, .int 0, .int 0, .int 0, .int 0, .int 0, .null, .null, .int 0, .int 0, .int 0, .null, .null, .long 0, .null, .null, .null, .null, .null, .null, .null, .null, .null, .null])), (q_1, .inl (cA_2, 1875, .inl (fun _ => 0))), (q_3, .inl (cA_4, 5625, .inl (fun _ => 0))), (q_5, .inl (cA_6, 3, .inl (fun _ => 0))), (q_7, .inl (cA_8, 20000, .inl (fun _ => 0))), (q_9, .inl (cA_10, 1200, .inl (fun _ => 0))), (q_11, .inl (cA_12, 5, .inl (fun _ => 0)))] := hD
  have hK : va_K (dC, dI) vwCl [(cA_2, .int), (cA_4, .int), (cA_6, .boolean), (cA_8, .int), (cA_10, .byte), (cA_12, .int)] s := hK
  refine W.widen (k := 6) (n := 28708) (lel _ _ rfl) (lel _ _ rfl) ?_
  refine va_putF (D := (dC, dI)) (ci := 8) (v := .ref q_11) (ty := .array .int) (C := RX10) (T := TX10) (N := 33) hx hb hts iX10_init_X10 tyX10 tyX10_ok nmX10 hown hK hP hD hS 0 rfl rfl 7 (by decide) (hts (.fieldLink RX10 27 "LuckyTicketModel" "five" "[I") (List.mem_of_getElem? (i := 12) rfl)) (fun _ h9 => h9) rfl hin rfl (by decide +kernel) rfl rfl (Nat.le_of_ble_eq_true rfl) dX10_init_51 (fun H locs hP hD hS => ?_)
  have hP : va_P (dC, dI) vwCl [(h0, .inr (8, [.int 0, .ref q_1, .ref q_3, .ref q_5, .ref q_7, .ref q_9, .int 0, .ref q_11, .int 0, .int 0, .int 0, .int 0, .int 0, .int 0, .int 0, .null, .null, .int 0, .int 0, .int 0, .null, .null, .long 0, .null, .null, .null, .null, .null, .null, .null, .null, .null, .null])), (q_1, .inl (cA_2, 1875, .inl (fun _ => 0))), (q_3, .inl (cA_4, 5625, .inl (fun _ => 0))), (q_5, .inl (cA_6, 3, .inl (fun _ => 0))), (q_7, .inl (cA_8, 20000, .inl (fun _ => 0))), (q_9, .inl (cA_10, 1200, .inl (fun _ => 0))), (q_11, .inl (cA_12, 5, .inl (fun _ => 0)))] H := hP
  have hD : va_D A [(h0, .inr (8, [.int 0, .ref q_1, .ref q_3, .ref q_5, .ref q_7, .ref q_9, .int 0, .ref q_11, .int 0, .int 0, .int 0, .int 0, .int 0, .int 0, .int 0, .null, .null, .int 0, .int 0, .int 0, .null, .null, .long 0, .null, .null, .null, .null, .null, .null, .null, .null, .null, .null])), (q_1, .inl (cA_2, 1875, .inl (fun _ => 0))), (q_3, .inl (cA_4, 5625, .inl (fun _ => 0))), (q_5, .inl (cA_6, 3, .inl (fun _ => 0))), (q_7, .inl (cA_8, 20000, .inl (fun _ => 0))), (q_9, .inl (cA_10, 1200, .inl (fun _ => 0))), (q_11, .inl (cA_12, 5, .inl (fun _ => 0)))] := hD
  refine lv_aload_n hx hb dX10_init_54 rfl (lv_at hl 0 rfl) ?_
  refine lv_iconst (v := (-1)) hx hb dX10_init_55 (by decide) ?_
  refine va_put (D := (dC, dI)) (ci := 8) (v := .int (-1)) (ty := .int) (C := RX10) (T := TX10) (N := 33) hx hb hts iX10_init_X10 tyX10 tyX10_ok nmX10 hown hK hP hD hS 0 rfl rfl 14 (by decide) (hts (.fieldLink RX10 30 "LuckyTicketModel" "faultPlace" "I") (List.mem_of_getElem? (i := 13) rfl)) (fun _ h9 => h9) rfl (by decide +kernel) rfl rfl (Nat.le_of_ble_eq_true rfl) dX10_init_56 (fun H locs hP hD hS => ?_)
  have hP : va_P (dC, dI) vwCl [(h0, .inr (8, [.int 0, .ref q_1, .ref q_3, .ref q_5, .ref q_7, .ref q_9, .int 0, .ref q_11, .int 0, .int 0, .int 0, .int 0, .int 0, .int 0, .int (-1), .null, .null, .int 0, .int 0, .int 0, .null, .null, .long 0, .null, .null, .null, .null, .null, .null, .null, .null, .null, .null])), (q_1, .inl (cA_2, 1875, .inl (fun _ => 0))), (q_3, .inl (cA_4, 5625, .inl (fun _ => 0))), (q_5, .inl (cA_6, 3, .inl (fun _ => 0))), (q_7, .inl (cA_8, 20000, .inl (fun _ => 0))), (q_9, .inl (cA_10, 1200, .inl (fun _ => 0))), (q_11, .inl (cA_12, 5, .inl (fun _ => 0)))] H := hP
  have hD : va_D A [(h0, .inr (8, [.int 0, .ref q_1, .ref q_3, .ref q_5, .ref q_7, .ref q_9, .int 0, .ref q_11, .int 0, .int 0, .int 0, .int 0, .int 0, .int 0, .int (-1), .null, .null, .int 0, .int 0, .int 0, .null, .null, .long 0, .null, .null, .null, .null, .null, .null, .null, .null, .null, .null])), (q_1, .inl (cA_2, 1875, .inl (fun _ => 0))), (q_3, .inl (cA_4, 5625, .inl (fun _ => 0))), (q_5, .inl (cA_6, 3, .inl (fun _ => 0))), (q_7, .inl (cA_8, 20000, .inl (fun _ => 0))), (q_9, .inl (cA_10, 1200, .inl (fun _ => 0))), (q_11, .inl (cA_12, 5, .inl (fun _ => 0)))] := hD
  refine lv_aload_n hx hb dX10_init_59 rfl (lv_at hl 0 rfl) ?_
  refine lv_sipush (v := 1875) hx hb dX10_init_60 (by decide) ?_
  refine va_newa (atype := .int) (ty := .int) (a0 := (1875, .inl (fun _ => 0))) (N' := 1875) hx hb (hts (.arrayClass .int) (List.mem_of_getElem? (i := 4) rfl)) rfl hK hP hD hS hA (fun cA => na_int cA 1875) (by decide) (by decide) (by decide) (lel 7 20 rfl) (lel 30583 71437 rfl) dX10_init_63 (fun q_13 cA_14 H hK hP hD hS => ?_)
  have hP : va_P (dC, dI) vwCl [(h0, .inr (8, [.int 0, .ref q_1, .ref q_3, .ref q_5, .ref q_7, .ref q_9, .int 0, .ref q_11, .int 0, .int 0, .int 0, .int 0, .int 0, .int 0, .int (-1), .null, .null, .int 0, .int 0, .int 0, .null, .null, .long 0, .null, .null, .null, .null, .null, .null, .null, .null, .null, .null])), (q_1, .inl (cA_2, 1875, .inl (fun _ => 0))), (q_3, .inl (cA_4, 5625, .inl (fun _ => 0))), (q_5, .inl (cA_6, 3, .inl (fun _ => 0))), (q_7, .inl (cA_8, 20000, .inl (fun _ => 0))), (q_9, .inl (cA_10, 1200, .inl (fun _ => 0))), (q_11, .inl (cA_12, 5, .inl (fun _ => 0))), (q_13, .inl (cA_14, 1875, .inl (fun _ => 0)))] H := hP
  have hD : va_D A [(h0, .inr (8, [.int 0, .ref q_1, .ref q_3, .ref q_5, .ref q_7, .ref q_9, .int 0, .ref q_11, .int 0, .int 0, .int 0, .int 0, .int 0, .int 0, .int (-1), .null, .null, .int 0, .int 0, .int 0, .null, .null, .long 0, .null, .null, .null, .null, .null, .null, .null, .null, .null, .null])), (q_1, .inl (cA_2, 1875, .inl (fun _ => 0))), (q_3, .inl (cA_4, 5625, .inl (fun _ => 0))), (q_5, .inl (cA_6, 3, .inl (fun _ => 0))), (q_7, .inl (cA_8, 20000, .inl (fun _ => 0))), (q_9, .inl (cA_10, 1200, .inl (fun _ => 0))), (q_11, .inl (cA_12, 5, .inl (fun _ => 0))), (q_13, .inl (cA_14, 1875, .inl (fun _ => 0)))] := hD
  have hK : va_K (dC, dI) vwCl [(cA_2, .int), (cA_4, .int), (cA_6, .boolean), (cA_8, .int), (cA_10, .byte), (cA_12, .int), (cA_14, .int)] s := hK
  refine W.widen (k := 7) (n := 30583) (lel _ _ rfl) (lel _ _ rfl) ?_
  refine va_putF (D := (dC, dI)) (ci := 8) (v := .ref q_13) (ty := .array .int) (C := RX10) (T := TX10) (N := 33) hx hb hts iX10_init_X10 tyX10 tyX10_ok nmX10 hown hK hP hD hS 0 rfl rfl 15 (by decide) (hts (.fieldLink RX10 34 "LuckyTicketModel" "fresh" "[I") (List.mem_of_getElem? (i := 14) rfl)) (fun _ h9 => h9) rfl hin rfl (by decide +kernel) rfl rfl (Nat.le_of_ble_eq_true rfl) dX10_init_65 (fun H locs hP hD hS => ?_)
  have hP : va_P (dC, dI) vwCl [(h0, .inr (8, [.int 0, .ref q_1, .ref q_3, .ref q_5, .ref q_7, .ref q_9, .int 0, .ref q_11, .int 0, .int 0, .int 0, .int 0, .int 0, .int 0, .int (-1), .ref q_13, .null, .int 0, .int 0, .int 0, .null, .null, .long 0, .null, .null, .null, .null, .null, .null, .null, .null, .null, .null])), (q_1, .inl (cA_2, 1875, .inl (fun _ => 0))), (q_3, .inl (cA_4, 5625, .inl (fun _ => 0))), (q_5, .inl (cA_6, 3, .inl (fun _ => 0))), (q_7, .inl (cA_8, 20000, .inl (fun _ => 0))), (q_9, .inl (cA_10, 1200, .inl (fun _ => 0))), (q_11, .inl (cA_12, 5, .inl (fun _ => 0))), (q_13, .inl (cA_14, 1875, .inl (fun _ => 0)))] H := hP
  have hD : va_D A [(h0, .inr (8, [.int 0, .ref q_1, .ref q_3, .ref q_5, .ref q_7, .ref q_9, .int 0, .ref q_11, .int 0, .int 0, .int 0, .int 0, .int 0, .int 0, .int (-1), .ref q_13, .null, .int 0, .int 0, .int 0, .null, .null, .long 0, .null, .null, .null, .null, .null, .null, .null, .null, .null, .null])), (q_1, .inl (cA_2, 1875, .inl (fun _ => 0))), (q_3, .inl (cA_4, 5625, .inl (fun _ => 0))), (q_5, .inl (cA_6, 3, .inl (fun _ => 0))), (q_7, .inl (cA_8, 20000, .inl (fun _ => 0))), (q_9, .inl (cA_10, 1200, .inl (fun _ => 0))), (q_11, .inl (cA_12, 5, .inl (fun _ => 0))), (q_13, .inl (cA_14, 1875, .inl (fun _ => 0)))] := hD
  refine lv_aload_n hx hb dX10_init_68 rfl (lv_at hl 0 rfl) ?_
  refine lv_bipush (v := 78) hx hb dX10_init_69 (by decide) ?_
  refine va_newa (atype := .int) (ty := .int) (a0 := (78, .inl (fun _ => 0))) (N' := 78) hx hb (hts (.arrayClass .int) (List.mem_of_getElem? (i := 4) rfl)) rfl hK hP hD hS hA (fun cA => na_int cA 78) (by decide) (by decide) (by decide) (lel 8 20 rfl) (lel 30661 71437 rfl) dX10_init_71 (fun q_15 cA_16 H hK hP hD hS => ?_)
  have hP : va_P (dC, dI) vwCl [(h0, .inr (8, [.int 0, .ref q_1, .ref q_3, .ref q_5, .ref q_7, .ref q_9, .int 0, .ref q_11, .int 0, .int 0, .int 0, .int 0, .int 0, .int 0, .int (-1), .ref q_13, .null, .int 0, .int 0, .int 0, .null, .null, .long 0, .null, .null, .null, .null, .null, .null, .null, .null, .null, .null])), (q_1, .inl (cA_2, 1875, .inl (fun _ => 0))), (q_3, .inl (cA_4, 5625, .inl (fun _ => 0))), (q_5, .inl (cA_6, 3, .inl (fun _ => 0))), (q_7, .inl (cA_8, 20000, .inl (fun _ => 0))), (q_9, .inl (cA_10, 1200, .inl (fun _ => 0))), (q_11, .inl (cA_12, 5, .inl (fun _ => 0))), (q_13, .inl (cA_14, 1875, .inl (fun _ => 0))), (q_15, .inl (cA_16, 78, .inl (fun _ => 0)))] H := hP
  have hD : va_D A [(h0, .inr (8, [.int 0, .ref q_1, .ref q_3, .ref q_5, .ref q_7, .ref q_9, .int 0, .ref q_11, .int 0, .int 0, .int 0, .int 0, .int 0, .int 0, .int (-1), .ref q_13, .null, .int 0, .int 0, .int 0, .null, .null, .long 0, .null, .null, .null, .null, .null, .null, .null, .null, .null, .null])), (q_1, .inl (cA_2, 1875, .inl (fun _ => 0))), (q_3, .inl (cA_4, 5625, .inl (fun _ => 0))), (q_5, .inl (cA_6, 3, .inl (fun _ => 0))), (q_7, .inl (cA_8, 20000, .inl (fun _ => 0))), (q_9, .inl (cA_10, 1200, .inl (fun _ => 0))), (q_11, .inl (cA_12, 5, .inl (fun _ => 0))), (q_13, .inl (cA_14, 1875, .inl (fun _ => 0))), (q_15, .inl (cA_16, 78, .inl (fun _ => 0)))] := hD
  have hK : va_K (dC, dI) vwCl [(cA_2, .int), (cA_4, .int), (cA_6, .boolean), (cA_8, .int), (cA_10, .byte), (cA_12, .int), (cA_14, .int), (cA_16, .int)] s := hK
  refine W.widen (k := 8) (n := 30661) (lel _ _ rfl) (lel _ _ rfl) ?_
  refine va_putF (D := (dC, dI)) (ci := 8) (v := .ref q_15) (ty := .array .int) (C := RX10) (T := TX10) (N := 33) hx hb hts iX10_init_X10 tyX10 tyX10_ok nmX10 hown hK hP hD hS 0 rfl rfl 16 (by decide) (hts (.fieldLink RX10 37 "LuckyTicketModel" "waits" "[I") (List.mem_of_getElem? (i := 15) rfl)) (fun _ h9 => h9) rfl hin rfl (by decide +kernel) rfl rfl (Nat.le_of_ble_eq_true rfl) dX10_init_73 (fun H locs hP hD hS => ?_)
  have hP : va_P (dC, dI) vwCl [(h0, .inr (8, [.int 0, .ref q_1, .ref q_3, .ref q_5, .ref q_7, .ref q_9, .int 0, .ref q_11, .int 0, .int 0, .int 0, .int 0, .int 0, .int 0, .int (-1), .ref q_13, .ref q_15, .int 0, .int 0, .int 0, .null, .null, .long 0, .null, .null, .null, .null, .null, .null, .null, .null, .null, .null])), (q_1, .inl (cA_2, 1875, .inl (fun _ => 0))), (q_3, .inl (cA_4, 5625, .inl (fun _ => 0))), (q_5, .inl (cA_6, 3, .inl (fun _ => 0))), (q_7, .inl (cA_8, 20000, .inl (fun _ => 0))), (q_9, .inl (cA_10, 1200, .inl (fun _ => 0))), (q_11, .inl (cA_12, 5, .inl (fun _ => 0))), (q_13, .inl (cA_14, 1875, .inl (fun _ => 0))), (q_15, .inl (cA_16, 78, .inl (fun _ => 0)))] H := hP
  have hD : va_D A [(h0, .inr (8, [.int 0, .ref q_1, .ref q_3, .ref q_5, .ref q_7, .ref q_9, .int 0, .ref q_11, .int 0, .int 0, .int 0, .int 0, .int 0, .int 0, .int (-1), .ref q_13, .ref q_15, .int 0, .int 0, .int 0, .null, .null, .long 0, .null, .null, .null, .null, .null, .null, .null, .null, .null, .null])), (q_1, .inl (cA_2, 1875, .inl (fun _ => 0))), (q_3, .inl (cA_4, 5625, .inl (fun _ => 0))), (q_5, .inl (cA_6, 3, .inl (fun _ => 0))), (q_7, .inl (cA_8, 20000, .inl (fun _ => 0))), (q_9, .inl (cA_10, 1200, .inl (fun _ => 0))), (q_11, .inl (cA_12, 5, .inl (fun _ => 0))), (q_13, .inl (cA_14, 1875, .inl (fun _ => 0))), (q_15, .inl (cA_16, 78, .inl (fun _ => 0)))] := hD
  refine lv_aload_n hx hb dX10_init_76 rfl (lv_at hl 0 rfl) ?_
  refine lv_bipush (v := 12) hx hb dX10_init_77 (by decide) ?_
  refine va_newa (atype := .int) (ty := .int) (a0 := (12, .inl (fun _ => 0))) (N' := 12) hx hb (hts (.arrayClass .int) (List.mem_of_getElem? (i := 4) rfl)) rfl hK hP hD hS hA (fun cA => na_int cA 12) (by decide) (by decide) (by decide) (lel 9 20 rfl) (lel 30673 71437 rfl) dX10_init_79 (fun q_17 cA_18 H hK hP hD hS => ?_)
  have hP : va_P (dC, dI) vwCl [(h0, .inr (8, [.int 0, .ref q_1, .ref q_3, .ref q_5, .ref q_7, .ref q_9, .int 0, .ref q_11, .int 0, .int 0, .int 0, .int 0, .int 0, .int 0, .int (-1), .ref q_13, .ref q_15, .int 0, .int 0, .int 0, .null, .null, .long 0, .null, .null, .null, .null, .null, .null, .null, .null, .null, .null])), (q_1, .inl (cA_2, 1875, .inl (fun _ => 0))), (q_3, .inl (cA_4, 5625, .inl (fun _ => 0))), (q_5, .inl (cA_6, 3, .inl (fun _ => 0))), (q_7, .inl (cA_8, 20000, .inl (fun _ => 0))), (q_9, .inl (cA_10, 1200, .inl (fun _ => 0))), (q_11, .inl (cA_12, 5, .inl (fun _ => 0))), (q_13, .inl (cA_14, 1875, .inl (fun _ => 0))), (q_15, .inl (cA_16, 78, .inl (fun _ => 0))), (q_17, .inl (cA_18, 12, .inl (fun _ => 0)))] H := hP
  have hD : va_D A [(h0, .inr (8, [.int 0, .ref q_1, .ref q_3, .ref q_5, .ref q_7, .ref q_9, .int 0, .ref q_11, .int 0, .int 0, .int 0, .int 0, .int 0, .int 0, .int (-1), .ref q_13, .ref q_15, .int 0, .int 0, .int 0, .null, .null, .long 0, .null, .null, .null, .null, .null, .null, .null, .null, .null, .null])), (q_1, .inl (cA_2, 1875, .inl (fun _ => 0))), (q_3, .inl (cA_4, 5625, .inl (fun _ => 0))), (q_5, .inl (cA_6, 3, .inl (fun _ => 0))), (q_7, .inl (cA_8, 20000, .inl (fun _ => 0))), (q_9, .inl (cA_10, 1200, .inl (fun _ => 0))), (q_11, .inl (cA_12, 5, .inl (fun _ => 0))), (q_13, .inl (cA_14, 1875, .inl (fun _ => 0))), (q_15, .inl (cA_16, 78, .inl (fun _ => 0))), (q_17, .inl (cA_18, 12, .inl (fun _ => 0)))] := hD
  have hK : va_K (dC, dI) vwCl [(cA_2, .int), (cA_4, .int), (cA_6, .boolean), (cA_8, .int), (cA_10, .byte), (cA_12, .int), (cA_14, .int), (cA_16, .int), (cA_18, .int)] s := hK
  refine W.widen (k := 9) (n := 30673) (lel _ _ rfl) (lel _ _ rfl) ?_
  refine va_putF (D := (dC, dI)) (ci := 8) (v := .ref q_17) (ty := .array .int) (C := RX10) (T := TX10) (N := 33) hx hb hts iX10_init_X10 tyX10 tyX10_ok nmX10 hown hK hP hD hS 0 rfl rfl 20 (by decide) (hts (.fieldLink RX10 40 "LuckyTicketModel" "figures" "[I") (List.mem_of_getElem? (i := 16) rfl)) (fun _ h9 => h9) rfl hin rfl (by decide +kernel) rfl rfl (Nat.le_of_ble_eq_true rfl) dX10_init_81 (fun H locs hP hD hS => ?_)
  have hP : va_P (dC, dI) vwCl [(h0, .inr (8, [.int 0, .ref q_1, .ref q_3, .ref q_5, .ref q_7, .ref q_9, .int 0, .ref q_11, .int 0, .int 0, .int 0, .int 0, .int 0, .int 0, .int (-1), .ref q_13, .ref q_15, .int 0, .int 0, .int 0, .ref q_17, .null, .long 0, .null, .null, .null, .null, .null, .null, .null, .null, .null, .null])), (q_1, .inl (cA_2, 1875, .inl (fun _ => 0))), (q_3, .inl (cA_4, 5625, .inl (fun _ => 0))), (q_5, .inl (cA_6, 3, .inl (fun _ => 0))), (q_7, .inl (cA_8, 20000, .inl (fun _ => 0))), (q_9, .inl (cA_10, 1200, .inl (fun _ => 0))), (q_11, .inl (cA_12, 5, .inl (fun _ => 0))), (q_13, .inl (cA_14, 1875, .inl (fun _ => 0))), (q_15, .inl (cA_16, 78, .inl (fun _ => 0))), (q_17, .inl (cA_18, 12, .inl (fun _ => 0)))] H := hP
  have hD : va_D A [(h0, .inr (8, [.int 0, .ref q_1, .ref q_3, .ref q_5, .ref q_7, .ref q_9, .int 0, .ref q_11, .int 0, .int 0, .int 0, .int 0, .int 0, .int 0, .int (-1), .ref q_13, .ref q_15, .int 0, .int 0, .int 0, .ref q_17, .null, .long 0, .null, .null, .null, .null, .null, .null, .null, .null, .null, .null])), (q_1, .inl (cA_2, 1875, .inl (fun _ => 0))), (q_3, .inl (cA_4, 5625, .inl (fun _ => 0))), (q_5, .inl (cA_6, 3, .inl (fun _ => 0))), (q_7, .inl (cA_8, 20000, .inl (fun _ => 0))), (q_9, .inl (cA_10, 1200, .inl (fun _ => 0))), (q_11, .inl (cA_12, 5, .inl (fun _ => 0))), (q_13, .inl (cA_14, 1875, .inl (fun _ => 0))), (q_15, .inl (cA_16, 78, .inl (fun _ => 0))), (q_17, .inl (cA_18, 12, .inl (fun _ => 0)))] := hD
  refine lv_aload_n hx hb dX10_init_84 rfl (lv_at hl 0 rfl) ?_
  refine lv_bipush (v := 26) hx hb dX10_init_85 (by decide) ?_
  refine va_newa (atype := .boolean) (ty := .boolean) (a0 := (26, .inl (fun _ => 0))) (N' := 26) hx hb (hts (.arrayClass .boolean) (List.mem_of_getElem? (i := 7) rfl)) rfl hK hP hD hS hA (fun cA => na_boolean cA 26) (by decide) (by decide) (by decide) (lel 10 20 rfl) (lel 30699 71437 rfl) dX10_init_87 (fun q_19 cA_20 H hK hP hD hS => ?_)
  have hP : va_P (dC, dI) vwCl [(h0, .inr (8, [.int 0, .ref q_1, .ref q_3, .ref q_5, .ref q_7, .ref q_9, .int 0, .ref q_11, .int 0, .int 0, .int 0, .int 0, .int 0, .int 0, .int (-1), .ref q_13, .ref q_15, .int 0, .int 0, .int 0, .ref q_17, .null, .long 0, .null, .null, .null, .null, .null, .null, .null, .null, .null, .null])), (q_1, .inl (cA_2, 1875, .inl (fun _ => 0))), (q_3, .inl (cA_4, 5625, .inl (fun _ => 0))), (q_5, .inl (cA_6, 3, .inl (fun _ => 0))), (q_7, .inl (cA_8, 20000, .inl (fun _ => 0))), (q_9, .inl (cA_10, 1200, .inl (fun _ => 0))), (q_11, .inl (cA_12, 5, .inl (fun _ => 0))), (q_13, .inl (cA_14, 1875, .inl (fun _ => 0))), (q_15, .inl (cA_16, 78, .inl (fun _ => 0))), (q_17, .inl (cA_18, 12, .inl (fun _ => 0))), (q_19, .inl (cA_20, 26, .inl (fun _ => 0)))] H := hP
  have hD : va_D A [(h0, .inr (8, [.int 0, .ref q_1, .ref q_3, .ref q_5, .ref q_7, .ref q_9, .int 0, .ref q_11, .int 0, .int 0, .int 0, .int 0, .int 0, .int 0, .int (-1), .ref q_13, .ref q_15, .int 0, .int 0, .int 0, .ref q_17, .null, .long 0, .null, .null, .null, .null, .null, .null, .null, .null, .null, .null])), (q_1, .inl (cA_2, 1875, .inl (fun _ => 0))), (q_3, .inl (cA_4, 5625, .inl (fun _ => 0))), (q_5, .inl (cA_6, 3, .inl (fun _ => 0))), (q_7, .inl (cA_8, 20000, .inl (fun _ => 0))), (q_9, .inl (cA_10, 1200, .inl (fun _ => 0))), (q_11, .inl (cA_12, 5, .inl (fun _ => 0))), (q_13, .inl (cA_14, 1875, .inl (fun _ => 0))), (q_15, .inl (cA_16, 78, .inl (fun _ => 0))), (q_17, .inl (cA_18, 12, .inl (fun _ => 0))), (q_19, .inl (cA_20, 26, .inl (fun _ => 0)))] := hD
  have hK : va_K (dC, dI) vwCl [(cA_2, .int), (cA_4, .int), (cA_6, .boolean), (cA_8, .int), (cA_10, .byte), (cA_12, .int), (cA_14, .int), (cA_16, .int), (cA_18, .int), (cA_20, .boolean)] s := hK
  refine W.widen (k := 10) (n := 30699) (lel _ _ rfl) (lel _ _ rfl) ?_
  refine va_putF (D := (dC, dI)) (ci := 8) (v := .ref q_19) (ty := .array .boolean) (C := RX10) (T := TX10) (N := 33) hx hb hts iX10_init_X10 tyX10 tyX10_ok nmX10 hown hK hP hD hS 0 rfl rfl 21 (by decide) (hts (.fieldLink RX10 43 "LuckyTicketModel" "pile" "[Z") (List.mem_of_getElem? (i := 17) rfl)) (fun _ h9 => h9) rfl hin rfl (by decide +kernel) rfl rfl (Nat.le_of_ble_eq_true rfl) dX10_init_89 (fun H locs hP hD hS => ?_)
  have hP : va_P (dC, dI) vwCl [(h0, .inr (8, [.int 0, .ref q_1, .ref q_3, .ref q_5, .ref q_7, .ref q_9, .int 0, .ref q_11, .int 0, .int 0, .int 0, .int 0, .int 0, .int 0, .int (-1), .ref q_13, .ref q_15, .int 0, .int 0, .int 0, .ref q_17, .ref q_19, .long 0, .null, .null, .null, .null, .null, .null, .null, .null, .null, .null])), (q_1, .inl (cA_2, 1875, .inl (fun _ => 0))), (q_3, .inl (cA_4, 5625, .inl (fun _ => 0))), (q_5, .inl (cA_6, 3, .inl (fun _ => 0))), (q_7, .inl (cA_8, 20000, .inl (fun _ => 0))), (q_9, .inl (cA_10, 1200, .inl (fun _ => 0))), (q_11, .inl (cA_12, 5, .inl (fun _ => 0))), (q_13, .inl (cA_14, 1875, .inl (fun _ => 0))), (q_15, .inl (cA_16, 78, .inl (fun _ => 0))), (q_17, .inl (cA_18, 12, .inl (fun _ => 0))), (q_19, .inl (cA_20, 26, .inl (fun _ => 0)))] H := hP
  have hD : va_D A [(h0, .inr (8, [.int 0, .ref q_1, .ref q_3, .ref q_5, .ref q_7, .ref q_9, .int 0, .ref q_11, .int 0, .int 0, .int 0, .int 0, .int 0, .int 0, .int (-1), .ref q_13, .ref q_15, .int 0, .int 0, .int 0, .ref q_17, .ref q_19, .long 0, .null, .null, .null, .null, .null, .null, .null, .null, .null, .null])), (q_1, .inl (cA_2, 1875, .inl (fun _ => 0))), (q_3, .inl (cA_4, 5625, .inl (fun _ => 0))), (q_5, .inl (cA_6, 3, .inl (fun _ => 0))), (q_7, .inl (cA_8, 20000, .inl (fun _ => 0))), (q_9, .inl (cA_10, 1200, .inl (fun _ => 0))), (q_11, .inl (cA_12, 5, .inl (fun _ => 0))), (q_13, .inl (cA_14, 1875, .inl (fun _ => 0))), (q_15, .inl (cA_16, 78, .inl (fun _ => 0))), (q_17, .inl (cA_18, 12, .inl (fun _ => 0))), (q_19, .inl (cA_20, 26, .inl (fun _ => 0)))] := hD
  refine lv_aload_n hx hb dX10_init_92 rfl (lv_at hl 0 rfl) ?_
  refine lv_bipush (v := 16) hx hb dX10_init_93 (by decide) ?_
  refine va_newa (atype := .int) (ty := .int) (a0 := (16, .inl (fun _ => 0))) (N' := 16) hx hb (hts (.arrayClass .int) (List.mem_of_getElem? (i := 4) rfl)) rfl hK hP hD hS hA (fun cA => na_int cA 16) (by decide) (by decide) (by decide) (lel 11 20 rfl) (lel 30715 71437 rfl) dX10_init_95 (fun q_21 cA_22 H hK hP hD hS => ?_)
  have hP : va_P (dC, dI) vwCl [(h0, .inr (8, [.int 0, .ref q_1, .ref q_3, .ref q_5, .ref q_7, .ref q_9, .int 0, .ref q_11, .int 0, .int 0, .int 0, .int 0, .int 0, .int 0, .int (-1), .ref q_13, .ref q_15, .int 0, .int 0, .int 0, .ref q_17, .ref q_19, .long 0, .null, .null, .null, .null, .null, .null, .null, .null, .null, .null])), (q_1, .inl (cA_2, 1875, .inl (fun _ => 0))), (q_3, .inl (cA_4, 5625, .inl (fun _ => 0))), (q_5, .inl (cA_6, 3, .inl (fun _ => 0))), (q_7, .inl (cA_8, 20000, .inl (fun _ => 0))), (q_9, .inl (cA_10, 1200, .inl (fun _ => 0))), (q_11, .inl (cA_12, 5, .inl (fun _ => 0))), (q_13, .inl (cA_14, 1875, .inl (fun _ => 0))), (q_15, .inl (cA_16, 78, .inl (fun _ => 0))), (q_17, .inl (cA_18, 12, .inl (fun _ => 0))), (q_19, .inl (cA_20, 26, .inl (fun _ => 0))), (q_21, .inl (cA_22, 16, .inl (fun _ => 0)))] H := hP
  have hD : va_D A [(h0, .inr (8, [.int 0, .ref q_1, .ref q_3, .ref q_5, .ref q_7, .ref q_9, .int 0, .ref q_11, .int 0, .int 0, .int 0, .int 0, .int 0, .int 0, .int (-1), .ref q_13, .ref q_15, .int 0, .int 0, .int 0, .ref q_17, .ref q_19, .long 0, .null, .null, .null, .null, .null, .null, .null, .null, .null, .null])), (q_1, .inl (cA_2, 1875, .inl (fun _ => 0))), (q_3, .inl (cA_4, 5625, .inl (fun _ => 0))), (q_5, .inl (cA_6, 3, .inl (fun _ => 0))), (q_7, .inl (cA_8, 20000, .inl (fun _ => 0))), (q_9, .inl (cA_10, 1200, .inl (fun _ => 0))), (q_11, .inl (cA_12, 5, .inl (fun _ => 0))), (q_13, .inl (cA_14, 1875, .inl (fun _ => 0))), (q_15, .inl (cA_16, 78, .inl (fun _ => 0))), (q_17, .inl (cA_18, 12, .inl (fun _ => 0))), (q_19, .inl (cA_20, 26, .inl (fun _ => 0))), (q_21, .inl (cA_22, 16, .inl (fun _ => 0)))] := hD
  have hK : va_K (dC, dI) vwCl [(cA_2, .int), (cA_4, .int), (cA_6, .boolean), (cA_8, .int), (cA_10, .byte), (cA_12, .int), (cA_14, .int), (cA_16, .int), (cA_18, .int), (cA_20, .boolean), (cA_22, .int)] s := hK
  refine W.widen (k := 11) (n := 30715) (lel _ _ rfl) (lel _ _ rfl) ?_
  refine va_putF (D := (dC, dI)) (ci := 8) (v := .ref q_21) (ty := .array .int) (C := RX10) (T := TX10) (N := 33) hx hb hts iX10_init_X10 tyX10 tyX10_ok nmX10 hown hK hP hD hS 0 rfl rfl 23 (by decide) (hts (.fieldLink RX10 46 "LuckyTicketModel" "times" "[I") (List.mem_of_getElem? (i := 18) rfl)) (fun _ h9 => h9) rfl hin rfl (by decide +kernel) rfl rfl (Nat.le_of_ble_eq_true rfl) dX10_init_97 (fun H locs hP hD hS => ?_)
  have hP : va_P (dC, dI) vwCl [(h0, .inr (8, [.int 0, .ref q_1, .ref q_3, .ref q_5, .ref q_7, .ref q_9, .int 0, .ref q_11, .int 0, .int 0, .int 0, .int 0, .int 0, .int 0, .int (-1), .ref q_13, .ref q_15, .int 0, .int 0, .int 0, .ref q_17, .ref q_19, .long 0, .ref q_21, .null, .null, .null, .null, .null, .null, .null, .null, .null])), (q_1, .inl (cA_2, 1875, .inl (fun _ => 0))), (q_3, .inl (cA_4, 5625, .inl (fun _ => 0))), (q_5, .inl (cA_6, 3, .inl (fun _ => 0))), (q_7, .inl (cA_8, 20000, .inl (fun _ => 0))), (q_9, .inl (cA_10, 1200, .inl (fun _ => 0))), (q_11, .inl (cA_12, 5, .inl (fun _ => 0))), (q_13, .inl (cA_14, 1875, .inl (fun _ => 0))), (q_15, .inl (cA_16, 78, .inl (fun _ => 0))), (q_17, .inl (cA_18, 12, .inl (fun _ => 0))), (q_19, .inl (cA_20, 26, .inl (fun _ => 0))), (q_21, .inl (cA_22, 16, .inl (fun _ => 0)))] H := hP
  have hD : va_D A [(h0, .inr (8, [.int 0, .ref q_1, .ref q_3, .ref q_5, .ref q_7, .ref q_9, .int 0, .ref q_11, .int 0, .int 0, .int 0, .int 0, .int 0, .int 0, .int (-1), .ref q_13, .ref q_15, .int 0, .int 0, .int 0, .ref q_17, .ref q_19, .long 0, .ref q_21, .null, .null, .null, .null, .null, .null, .null, .null, .null])), (q_1, .inl (cA_2, 1875, .inl (fun _ => 0))), (q_3, .inl (cA_4, 5625, .inl (fun _ => 0))), (q_5, .inl (cA_6, 3, .inl (fun _ => 0))), (q_7, .inl (cA_8, 20000, .inl (fun _ => 0))), (q_9, .inl (cA_10, 1200, .inl (fun _ => 0))), (q_11, .inl (cA_12, 5, .inl (fun _ => 0))), (q_13, .inl (cA_14, 1875, .inl (fun _ => 0))), (q_15, .inl (cA_16, 78, .inl (fun _ => 0))), (q_17, .inl (cA_18, 12, .inl (fun _ => 0))), (q_19, .inl (cA_20, 26, .inl (fun _ => 0))), (q_21, .inl (cA_22, 16, .inl (fun _ => 0)))] := hD
  refine lv_aload_n hx hb dX10_init_100 rfl (lv_at hl 0 rfl) ?_
  refine lv_sipush (v := 20000) hx hb dX10_init_101 (by decide) ?_
  refine va_newa (atype := .int) (ty := .int) (a0 := (20000, .inl (fun _ => 0))) (N' := 20000) hx hb (hts (.arrayClass .int) (List.mem_of_getElem? (i := 4) rfl)) rfl hK hP hD hS hA (fun cA => na_int cA 20000) (by decide) (by decide) (by decide) (lel 12 20 rfl) (lel 50715 71437 rfl) dX10_init_104 (fun q_23 cA_24 H hK hP hD hS => ?_)
  have hP : va_P (dC, dI) vwCl [(h0, .inr (8, [.int 0, .ref q_1, .ref q_3, .ref q_5, .ref q_7, .ref q_9, .int 0, .ref q_11, .int 0, .int 0, .int 0, .int 0, .int 0, .int 0, .int (-1), .ref q_13, .ref q_15, .int 0, .int 0, .int 0, .ref q_17, .ref q_19, .long 0, .ref q_21, .null, .null, .null, .null, .null, .null, .null, .null, .null])), (q_1, .inl (cA_2, 1875, .inl (fun _ => 0))), (q_3, .inl (cA_4, 5625, .inl (fun _ => 0))), (q_5, .inl (cA_6, 3, .inl (fun _ => 0))), (q_7, .inl (cA_8, 20000, .inl (fun _ => 0))), (q_9, .inl (cA_10, 1200, .inl (fun _ => 0))), (q_11, .inl (cA_12, 5, .inl (fun _ => 0))), (q_13, .inl (cA_14, 1875, .inl (fun _ => 0))), (q_15, .inl (cA_16, 78, .inl (fun _ => 0))), (q_17, .inl (cA_18, 12, .inl (fun _ => 0))), (q_19, .inl (cA_20, 26, .inl (fun _ => 0))), (q_21, .inl (cA_22, 16, .inl (fun _ => 0))), (q_23, .inl (cA_24, 20000, .inl (fun _ => 0)))] H := hP
  have hD : va_D A [(h0, .inr (8, [.int 0, .ref q_1, .ref q_3, .ref q_5, .ref q_7, .ref q_9, .int 0, .ref q_11, .int 0, .int 0, .int 0, .int 0, .int 0, .int 0, .int (-1), .ref q_13, .ref q_15, .int 0, .int 0, .int 0, .ref q_17, .ref q_19, .long 0, .ref q_21, .null, .null, .null, .null, .null, .null, .null, .null, .null])), (q_1, .inl (cA_2, 1875, .inl (fun _ => 0))), (q_3, .inl (cA_4, 5625, .inl (fun _ => 0))), (q_5, .inl (cA_6, 3, .inl (fun _ => 0))), (q_7, .inl (cA_8, 20000, .inl (fun _ => 0))), (q_9, .inl (cA_10, 1200, .inl (fun _ => 0))), (q_11, .inl (cA_12, 5, .inl (fun _ => 0))), (q_13, .inl (cA_14, 1875, .inl (fun _ => 0))), (q_15, .inl (cA_16, 78, .inl (fun _ => 0))), (q_17, .inl (cA_18, 12, .inl (fun _ => 0))), (q_19, .inl (cA_20, 26, .inl (fun _ => 0))), (q_21, .inl (cA_22, 16, .inl (fun _ => 0))), (q_23, .inl (cA_24, 20000, .inl (fun _ => 0)))] := hD
  have hK : va_K (dC, dI) vwCl [(cA_2, .int), (cA_4, .int), (cA_6, .boolean), (cA_8, .int), (cA_10, .byte), (cA_12, .int), (cA_14, .int), (cA_16, .int), (cA_18, .int), (cA_20, .boolean), (cA_22, .int), (cA_24, .int)] s := hK
  refine W.widen (k := 12) (n := 50715) (lel _ _ rfl) (lel _ _ rfl) ?_
  refine va_putF (D := (dC, dI)) (ci := 8) (v := .ref q_23) (ty := .array .int) (C := RX10) (T := TX10) (N := 33) hx hb hts iX10_init_X10 tyX10 tyX10_ok nmX10 hown hK hP hD hS 0 rfl rfl 24 (by decide) (hts (.fieldLink RX10 49 "LuckyTicketModel" "far" "[I") (List.mem_of_getElem? (i := 19) rfl)) (fun _ h9 => h9) rfl hin rfl (by decide +kernel) rfl rfl (Nat.le_of_ble_eq_true rfl) dX10_init_106 (fun H locs hP hD hS => ?_)
  have hP : va_P (dC, dI) vwCl [(h0, .inr (8, [.int 0, .ref q_1, .ref q_3, .ref q_5, .ref q_7, .ref q_9, .int 0, .ref q_11, .int 0, .int 0, .int 0, .int 0, .int 0, .int 0, .int (-1), .ref q_13, .ref q_15, .int 0, .int 0, .int 0, .ref q_17, .ref q_19, .long 0, .ref q_21, .ref q_23, .null, .null, .null, .null, .null, .null, .null, .null])), (q_1, .inl (cA_2, 1875, .inl (fun _ => 0))), (q_3, .inl (cA_4, 5625, .inl (fun _ => 0))), (q_5, .inl (cA_6, 3, .inl (fun _ => 0))), (q_7, .inl (cA_8, 20000, .inl (fun _ => 0))), (q_9, .inl (cA_10, 1200, .inl (fun _ => 0))), (q_11, .inl (cA_12, 5, .inl (fun _ => 0))), (q_13, .inl (cA_14, 1875, .inl (fun _ => 0))), (q_15, .inl (cA_16, 78, .inl (fun _ => 0))), (q_17, .inl (cA_18, 12, .inl (fun _ => 0))), (q_19, .inl (cA_20, 26, .inl (fun _ => 0))), (q_21, .inl (cA_22, 16, .inl (fun _ => 0))), (q_23, .inl (cA_24, 20000, .inl (fun _ => 0)))] H := hP
  have hD : va_D A [(h0, .inr (8, [.int 0, .ref q_1, .ref q_3, .ref q_5, .ref q_7, .ref q_9, .int 0, .ref q_11, .int 0, .int 0, .int 0, .int 0, .int 0, .int 0, .int (-1), .ref q_13, .ref q_15, .int 0, .int 0, .int 0, .ref q_17, .ref q_19, .long 0, .ref q_21, .ref q_23, .null, .null, .null, .null, .null, .null, .null, .null])), (q_1, .inl (cA_2, 1875, .inl (fun _ => 0))), (q_3, .inl (cA_4, 5625, .inl (fun _ => 0))), (q_5, .inl (cA_6, 3, .inl (fun _ => 0))), (q_7, .inl (cA_8, 20000, .inl (fun _ => 0))), (q_9, .inl (cA_10, 1200, .inl (fun _ => 0))), (q_11, .inl (cA_12, 5, .inl (fun _ => 0))), (q_13, .inl (cA_14, 1875, .inl (fun _ => 0))), (q_15, .inl (cA_16, 78, .inl (fun _ => 0))), (q_17, .inl (cA_18, 12, .inl (fun _ => 0))), (q_19, .inl (cA_20, 26, .inl (fun _ => 0))), (q_21, .inl (cA_22, 16, .inl (fun _ => 0))), (q_23, .inl (cA_24, 20000, .inl (fun _ => 0)))] := hD
  refine lv_aload_n hx hb dX10_init_109 rfl (lv_at hl 0 rfl) ?_
  refine lv_sipush (v := 20000) hx hb dX10_init_110 (by decide) ?_
  refine va_newa (atype := .int) (ty := .int) (a0 := (20000, .inl (fun _ => 0))) (N' := 20000) hx hb (hts (.arrayClass .int) (List.mem_of_getElem? (i := 4) rfl)) rfl hK hP hD hS hA (fun cA => na_int cA 20000) (by decide) (by decide) (by decide) (lel 13 20 rfl) (lel 70715 71437 rfl) dX10_init_113 (fun q_25 cA_26 H hK hP hD hS => ?_)
  have hP : va_P (dC, dI) vwCl [(h0, .inr (8, [.int 0, .ref q_1, .ref q_3, .ref q_5, .ref q_7, .ref q_9, .int 0, .ref q_11, .int 0, .int 0, .int 0, .int 0, .int 0, .int 0, .int (-1), .ref q_13, .ref q_15, .int 0, .int 0, .int 0, .ref q_17, .ref q_19, .long 0, .ref q_21, .ref q_23, .null, .null, .null, .null, .null, .null, .null, .null])), (q_1, .inl (cA_2, 1875, .inl (fun _ => 0))), (q_3, .inl (cA_4, 5625, .inl (fun _ => 0))), (q_5, .inl (cA_6, 3, .inl (fun _ => 0))), (q_7, .inl (cA_8, 20000, .inl (fun _ => 0))), (q_9, .inl (cA_10, 1200, .inl (fun _ => 0))), (q_11, .inl (cA_12, 5, .inl (fun _ => 0))), (q_13, .inl (cA_14, 1875, .inl (fun _ => 0))), (q_15, .inl (cA_16, 78, .inl (fun _ => 0))), (q_17, .inl (cA_18, 12, .inl (fun _ => 0))), (q_19, .inl (cA_20, 26, .inl (fun _ => 0))), (q_21, .inl (cA_22, 16, .inl (fun _ => 0))), (q_23, .inl (cA_24, 20000, .inl (fun _ => 0))), (q_25, .inl (cA_26, 20000, .inl (fun _ => 0)))] H := hP
  have hD : va_D A [(h0, .inr (8, [.int 0, .ref q_1, .ref q_3, .ref q_5, .ref q_7, .ref q_9, .int 0, .ref q_11, .int 0, .int 0, .int 0, .int 0, .int 0, .int 0, .int (-1), .ref q_13, .ref q_15, .int 0, .int 0, .int 0, .ref q_17, .ref q_19, .long 0, .ref q_21, .ref q_23, .null, .null, .null, .null, .null, .null, .null, .null])), (q_1, .inl (cA_2, 1875, .inl (fun _ => 0))), (q_3, .inl (cA_4, 5625, .inl (fun _ => 0))), (q_5, .inl (cA_6, 3, .inl (fun _ => 0))), (q_7, .inl (cA_8, 20000, .inl (fun _ => 0))), (q_9, .inl (cA_10, 1200, .inl (fun _ => 0))), (q_11, .inl (cA_12, 5, .inl (fun _ => 0))), (q_13, .inl (cA_14, 1875, .inl (fun _ => 0))), (q_15, .inl (cA_16, 78, .inl (fun _ => 0))), (q_17, .inl (cA_18, 12, .inl (fun _ => 0))), (q_19, .inl (cA_20, 26, .inl (fun _ => 0))), (q_21, .inl (cA_22, 16, .inl (fun _ => 0))), (q_23, .inl (cA_24, 20000, .inl (fun _ => 0))), (q_25, .inl (cA_26, 20000, .inl (fun _ => 0)))] := hD
  have hK : va_K (dC, dI) vwCl [(cA_2, .int), (cA_4, .int), (cA_6, .boolean), (cA_8, .int), (cA_10, .byte), (cA_12, .int), (cA_14, .int), (cA_16, .int), (cA_18, .int), (cA_20, .boolean), (cA_22, .int), (cA_24, .int), (cA_26, .int)] s := hK
  refine W.widen (k := 13) (n := 70715) (lel _ _ rfl) (lel _ _ rfl) ?_
  refine va_putF (D := (dC, dI)) (ci := 8) (v := .ref q_25) (ty := .array .int) (C := RX10) (T := TX10) (N := 33) hx hb hts iX10_init_X10 tyX10 tyX10_ok nmX10 hown hK hP hD hS 0 rfl rfl 25 (by decide) (hts (.fieldLink RX10 52 "LuckyTicketModel" "queue" "[I") (List.mem_of_getElem? (i := 20) rfl)) (fun _ h9 => h9) rfl hin rfl (by decide +kernel) rfl rfl (Nat.le_of_ble_eq_true rfl) dX10_init_115 (fun H locs hP hD hS => ?_)
  have hP : va_P (dC, dI) vwCl [(h0, .inr (8, [.int 0, .ref q_1, .ref q_3, .ref q_5, .ref q_7, .ref q_9, .int 0, .ref q_11, .int 0, .int 0, .int 0, .int 0, .int 0, .int 0, .int (-1), .ref q_13, .ref q_15, .int 0, .int 0, .int 0, .ref q_17, .ref q_19, .long 0, .ref q_21, .ref q_23, .ref q_25, .null, .null, .null, .null, .null, .null, .null])), (q_1, .inl (cA_2, 1875, .inl (fun _ => 0))), (q_3, .inl (cA_4, 5625, .inl (fun _ => 0))), (q_5, .inl (cA_6, 3, .inl (fun _ => 0))), (q_7, .inl (cA_8, 20000, .inl (fun _ => 0))), (q_9, .inl (cA_10, 1200, .inl (fun _ => 0))), (q_11, .inl (cA_12, 5, .inl (fun _ => 0))), (q_13, .inl (cA_14, 1875, .inl (fun _ => 0))), (q_15, .inl (cA_16, 78, .inl (fun _ => 0))), (q_17, .inl (cA_18, 12, .inl (fun _ => 0))), (q_19, .inl (cA_20, 26, .inl (fun _ => 0))), (q_21, .inl (cA_22, 16, .inl (fun _ => 0))), (q_23, .inl (cA_24, 20000, .inl (fun _ => 0))), (q_25, .inl (cA_26, 20000, .inl (fun _ => 0)))] H := hP
  have hD : va_D A [(h0, .inr (8, [.int 0, .ref q_1, .ref q_3, .ref q_5, .ref q_7, .ref q_9, .int 0, .ref q_11, .int 0, .int 0, .int 0, .int 0, .int 0, .int 0, .int (-1), .ref q_13, .ref q_15, .int 0, .int 0, .int 0, .ref q_17, .ref q_19, .long 0, .ref q_21, .ref q_23, .ref q_25, .null, .null, .null, .null, .null, .null, .null])), (q_1, .inl (cA_2, 1875, .inl (fun _ => 0))), (q_3, .inl (cA_4, 5625, .inl (fun _ => 0))), (q_5, .inl (cA_6, 3, .inl (fun _ => 0))), (q_7, .inl (cA_8, 20000, .inl (fun _ => 0))), (q_9, .inl (cA_10, 1200, .inl (fun _ => 0))), (q_11, .inl (cA_12, 5, .inl (fun _ => 0))), (q_13, .inl (cA_14, 1875, .inl (fun _ => 0))), (q_15, .inl (cA_16, 78, .inl (fun _ => 0))), (q_17, .inl (cA_18, 12, .inl (fun _ => 0))), (q_19, .inl (cA_20, 26, .inl (fun _ => 0))), (q_21, .inl (cA_22, 16, .inl (fun _ => 0))), (q_23, .inl (cA_24, 20000, .inl (fun _ => 0))), (q_25, .inl (cA_26, 20000, .inl (fun _ => 0)))] := hD
  refine lv_aload_n hx hb dX10_init_118 rfl (lv_at hl 0 rfl) ?_
  refine lv_bipush (v := 12) hx hb dX10_init_119 (by decide) ?_
  refine va_newa (atype := .int) (ty := .int) (a0 := (12, .inl (fun _ => 0))) (N' := 12) hx hb (hts (.arrayClass .int) (List.mem_of_getElem? (i := 4) rfl)) rfl hK hP hD hS hA (fun cA => na_int cA 12) (by decide) (by decide) (by decide) (lel 14 20 rfl) (lel 70727 71437 rfl) dX10_init_121 (fun q_27 cA_28 H hK hP hD hS => ?_)
  have hP : va_P (dC, dI) vwCl [(h0, .inr (8, [.int 0, .ref q_1, .ref q_3, .ref q_5, .ref q_7, .ref q_9, .int 0, .ref q_11, .int 0, .int 0, .int 0, .int 0, .int 0, .int 0, .int (-1), .ref q_13, .ref q_15, .int 0, .int 0, .int 0, .ref q_17, .ref q_19, .long 0, .ref q_21, .ref q_23, .ref q_25, .null, .null, .null, .null, .null, .null, .null])), (q_1, .inl (cA_2, 1875, .inl (fun _ => 0))), (q_3, .inl (cA_4, 5625, .inl (fun _ => 0))), (q_5, .inl (cA_6, 3, .inl (fun _ => 0))), (q_7, .inl (cA_8, 20000, .inl (fun _ => 0))), (q_9, .inl (cA_10, 1200, .inl (fun _ => 0))), (q_11, .inl (cA_12, 5, .inl (fun _ => 0))), (q_13, .inl (cA_14, 1875, .inl (fun _ => 0))), (q_15, .inl (cA_16, 78, .inl (fun _ => 0))), (q_17, .inl (cA_18, 12, .inl (fun _ => 0))), (q_19, .inl (cA_20, 26, .inl (fun _ => 0))), (q_21, .inl (cA_22, 16, .inl (fun _ => 0))), (q_23, .inl (cA_24, 20000, .inl (fun _ => 0))), (q_25, .inl (cA_26, 20000, .inl (fun _ => 0))), (q_27, .inl (cA_28, 12, .inl (fun _ => 0)))] H := hP
  have hD : va_D A [(h0, .inr (8, [.int 0, .ref q_1, .ref q_3, .ref q_5, .ref q_7, .ref q_9, .int 0, .ref q_11, .int 0, .int 0, .int 0, .int 0, .int 0, .int 0, .int (-1), .ref q_13, .ref q_15, .int 0, .int 0, .int 0, .ref q_17, .ref q_19, .long 0, .ref q_21, .ref q_23, .ref q_25, .null, .null, .null, .null, .null, .null, .null])), (q_1, .inl (cA_2, 1875, .inl (fun _ => 0))), (q_3, .inl (cA_4, 5625, .inl (fun _ => 0))), (q_5, .inl (cA_6, 3, .inl (fun _ => 0))), (q_7, .inl (cA_8, 20000, .inl (fun _ => 0))), (q_9, .inl (cA_10, 1200, .inl (fun _ => 0))), (q_11, .inl (cA_12, 5, .inl (fun _ => 0))), (q_13, .inl (cA_14, 1875, .inl (fun _ => 0))), (q_15, .inl (cA_16, 78, .inl (fun _ => 0))), (q_17, .inl (cA_18, 12, .inl (fun _ => 0))), (q_19, .inl (cA_20, 26, .inl (fun _ => 0))), (q_21, .inl (cA_22, 16, .inl (fun _ => 0))), (q_23, .inl (cA_24, 20000, .inl (fun _ => 0))), (q_25, .inl (cA_26, 20000, .inl (fun _ => 0))), (q_27, .inl (cA_28, 12, .inl (fun _ => 0)))] := hD
  have hK : va_K (dC, dI) vwCl [(cA_2, .int), (cA_4, .int), (cA_6, .boolean), (cA_8, .int), (cA_10, .byte), (cA_12, .int), (cA_14, .int), (cA_16, .int), (cA_18, .int), (cA_20, .boolean), (cA_22, .int), (cA_24, .int), (cA_26, .int), (cA_28, .int)] s := hK
  refine W.widen (k := 14) (n := 70727) (lel _ _ rfl) (lel _ _ rfl) ?_
  refine lv_dup hx hb dX10_init_123 rfl ?_
  refine lv_iconst (v := 0) hx hb dX10_init_124 (by decide) ?_
  refine lv_bipush (v := 31) hx hb dX10_init_125 (by decide) ?_
  refine va_iast hx hb hK hP hD hS 14 13 rfl rfl (vp_in_lit (by decide)) dX10_init_127 (fun H locs hP hD hS => ?_)
  have hP : va_P (dC, dI) vwCl [(h0, .inr (8, [.int 0, .ref q_1, .ref q_3, .ref q_5, .ref q_7, .ref q_9, .int 0, .ref q_11, .int 0, .int 0, .int 0, .int 0, .int 0, .int 0, .int (-1), .ref q_13, .ref q_15, .int 0, .int 0, .int 0, .ref q_17, .ref q_19, .long 0, .ref q_21, .ref q_23, .ref q_25, .null, .null, .null, .null, .null, .null, .null])), (q_1, .inl (cA_2, 1875, .inl (fun _ => 0))), (q_3, .inl (cA_4, 5625, .inl (fun _ => 0))), (q_5, .inl (cA_6, 3, .inl (fun _ => 0))), (q_7, .inl (cA_8, 20000, .inl (fun _ => 0))), (q_9, .inl (cA_10, 1200, .inl (fun _ => 0))), (q_11, .inl (cA_12, 5, .inl (fun _ => 0))), (q_13, .inl (cA_14, 1875, .inl (fun _ => 0))), (q_15, .inl (cA_16, 78, .inl (fun _ => 0))), (q_17, .inl (cA_18, 12, .inl (fun _ => 0))), (q_19, .inl (cA_20, 26, .inl (fun _ => 0))), (q_21, .inl (cA_22, 16, .inl (fun _ => 0))), (q_23, .inl (cA_24, 20000, .inl (fun _ => 0))), (q_25, .inl (cA_26, 20000, .inl (fun _ => 0))), (q_27, .inl (cA_28, 12, .inl (upd (fun _ => 0) (0 : Int32).toNatClampNeg 31)))] H := hP
  have hD : va_D A [(h0, .inr (8, [.int 0, .ref q_1, .ref q_3, .ref q_5, .ref q_7, .ref q_9, .int 0, .ref q_11, .int 0, .int 0, .int 0, .int 0, .int 0, .int 0, .int (-1), .ref q_13, .ref q_15, .int 0, .int 0, .int 0, .ref q_17, .ref q_19, .long 0, .ref q_21, .ref q_23, .ref q_25, .null, .null, .null, .null, .null, .null, .null])), (q_1, .inl (cA_2, 1875, .inl (fun _ => 0))), (q_3, .inl (cA_4, 5625, .inl (fun _ => 0))), (q_5, .inl (cA_6, 3, .inl (fun _ => 0))), (q_7, .inl (cA_8, 20000, .inl (fun _ => 0))), (q_9, .inl (cA_10, 1200, .inl (fun _ => 0))), (q_11, .inl (cA_12, 5, .inl (fun _ => 0))), (q_13, .inl (cA_14, 1875, .inl (fun _ => 0))), (q_15, .inl (cA_16, 78, .inl (fun _ => 0))), (q_17, .inl (cA_18, 12, .inl (fun _ => 0))), (q_19, .inl (cA_20, 26, .inl (fun _ => 0))), (q_21, .inl (cA_22, 16, .inl (fun _ => 0))), (q_23, .inl (cA_24, 20000, .inl (fun _ => 0))), (q_25, .inl (cA_26, 20000, .inl (fun _ => 0))), (q_27, .inl (cA_28, 12, .inl (upd (fun _ => 0) (0 : Int32).toNatClampNeg 31)))] := hD
  refine lv_dup hx hb dX10_init_128 rfl ?_
  refine lv_iconst (v := 1) hx hb dX10_init_129 (by decide) ?_
  refine lv_bipush (v := 28) hx hb dX10_init_130 (by decide) ?_
  refine va_iast hx hb hK hP hD hS 14 13 rfl rfl (vp_in_lit (by decide)) dX10_init_132 (fun H locs hP hD hS => ?_)
  have hP : va_P (dC, dI) vwCl [(h0, .inr (8, [.int 0, .ref q_1, .ref q_3, .ref q_5, .ref q_7, .ref q_9, .int 0, .ref q_11, .int 0, .int 0, .int 0, .int 0, .int 0, .int 0, .int (-1), .ref q_13, .ref q_15, .int 0, .int 0, .int 0, .ref q_17, .ref q_19, .long 0, .ref q_21, .ref q_23, .ref q_25, .null, .null, .null, .null, .null, .null, .null])), (q_1, .inl (cA_2, 1875, .inl (fun _ => 0))), (q_3, .inl (cA_4, 5625, .inl (fun _ => 0))), (q_5, .inl (cA_6, 3, .inl (fun _ => 0))), (q_7, .inl (cA_8, 20000, .inl (fun _ => 0))), (q_9, .inl (cA_10, 1200, .inl (fun _ => 0))), (q_11, .inl (cA_12, 5, .inl (fun _ => 0))), (q_13, .inl (cA_14, 1875, .inl (fun _ => 0))), (q_15, .inl (cA_16, 78, .inl (fun _ => 0))), (q_17, .inl (cA_18, 12, .inl (fun _ => 0))), (q_19, .inl (cA_20, 26, .inl (fun _ => 0))), (q_21, .inl (cA_22, 16, .inl (fun _ => 0))), (q_23, .inl (cA_24, 20000, .inl (fun _ => 0))), (q_25, .inl (cA_26, 20000, .inl (fun _ => 0))), (q_27, .inl (cA_28, 12, .inl (upd (upd (fun _ => 0) (0 : Int32).toNatClampNeg 31) (1 : Int32).toNatClampNeg 28)))] H := hP
  have hD : va_D A [(h0, .inr (8, [.int 0, .ref q_1, .ref q_3, .ref q_5, .ref q_7, .ref q_9, .int 0, .ref q_11, .int 0, .int 0, .int 0, .int 0, .int 0, .int 0, .int (-1), .ref q_13, .ref q_15, .int 0, .int 0, .int 0, .ref q_17, .ref q_19, .long 0, .ref q_21, .ref q_23, .ref q_25, .null, .null, .null, .null, .null, .null, .null])), (q_1, .inl (cA_2, 1875, .inl (fun _ => 0))), (q_3, .inl (cA_4, 5625, .inl (fun _ => 0))), (q_5, .inl (cA_6, 3, .inl (fun _ => 0))), (q_7, .inl (cA_8, 20000, .inl (fun _ => 0))), (q_9, .inl (cA_10, 1200, .inl (fun _ => 0))), (q_11, .inl (cA_12, 5, .inl (fun _ => 0))), (q_13, .inl (cA_14, 1875, .inl (fun _ => 0))), (q_15, .inl (cA_16, 78, .inl (fun _ => 0))), (q_17, .inl (cA_18, 12, .inl (fun _ => 0))), (q_19, .inl (cA_20, 26, .inl (fun _ => 0))), (q_21, .inl (cA_22, 16, .inl (fun _ => 0))), (q_23, .inl (cA_24, 20000, .inl (fun _ => 0))), (q_25, .inl (cA_26, 20000, .inl (fun _ => 0))), (q_27, .inl (cA_28, 12, .inl (upd (upd (fun _ => 0) (0 : Int32).toNatClampNeg 31) (1 : Int32).toNatClampNeg 28)))] := hD
  refine lv_dup hx hb dX10_init_133 rfl ?_
  refine lv_iconst (v := 2) hx hb dX10_init_134 (by decide) ?_
  refine lv_bipush (v := 31) hx hb dX10_init_135 (by decide) ?_
  refine va_iast hx hb hK hP hD hS 14 13 rfl rfl (vp_in_lit (by decide)) dX10_init_137 (fun H locs hP hD hS => ?_)
  have hP : va_P (dC, dI) vwCl [(h0, .inr (8, [.int 0, .ref q_1, .ref q_3, .ref q_5, .ref q_7, .ref q_9, .int 0, .ref q_11, .int 0, .int 0, .int 0, .int 0, .int 0, .int 0, .int (-1), .ref q_13, .ref q_15, .int 0, .int 0, .int 0, .ref q_17, .ref q_19, .long 0, .ref q_21, .ref q_23, .ref q_25, .null, .null, .null, .null, .null, .null, .null])), (q_1, .inl (cA_2, 1875, .inl (fun _ => 0))), (q_3, .inl (cA_4, 5625, .inl (fun _ => 0))), (q_5, .inl (cA_6, 3, .inl (fun _ => 0))), (q_7, .inl (cA_8, 20000, .inl (fun _ => 0))), (q_9, .inl (cA_10, 1200, .inl (fun _ => 0))), (q_11, .inl (cA_12, 5, .inl (fun _ => 0))), (q_13, .inl (cA_14, 1875, .inl (fun _ => 0))), (q_15, .inl (cA_16, 78, .inl (fun _ => 0))), (q_17, .inl (cA_18, 12, .inl (fun _ => 0))), (q_19, .inl (cA_20, 26, .inl (fun _ => 0))), (q_21, .inl (cA_22, 16, .inl (fun _ => 0))), (q_23, .inl (cA_24, 20000, .inl (fun _ => 0))), (q_25, .inl (cA_26, 20000, .inl (fun _ => 0))), (q_27, .inl (cA_28, 12, .inl (upd (upd (upd (fun _ => 0) (0 : Int32).toNatClampNeg 31) (1 : Int32).toNatClampNeg 28) (2 : Int32).toNatClampNeg 31)))] H := hP
  have hD : va_D A [(h0, .inr (8, [.int 0, .ref q_1, .ref q_3, .ref q_5, .ref q_7, .ref q_9, .int 0, .ref q_11, .int 0, .int 0, .int 0, .int 0, .int 0, .int 0, .int (-1), .ref q_13, .ref q_15, .int 0, .int 0, .int 0, .ref q_17, .ref q_19, .long 0, .ref q_21, .ref q_23, .ref q_25, .null, .null, .null, .null, .null, .null, .null])), (q_1, .inl (cA_2, 1875, .inl (fun _ => 0))), (q_3, .inl (cA_4, 5625, .inl (fun _ => 0))), (q_5, .inl (cA_6, 3, .inl (fun _ => 0))), (q_7, .inl (cA_8, 20000, .inl (fun _ => 0))), (q_9, .inl (cA_10, 1200, .inl (fun _ => 0))), (q_11, .inl (cA_12, 5, .inl (fun _ => 0))), (q_13, .inl (cA_14, 1875, .inl (fun _ => 0))), (q_15, .inl (cA_16, 78, .inl (fun _ => 0))), (q_17, .inl (cA_18, 12, .inl (fun _ => 0))), (q_19, .inl (cA_20, 26, .inl (fun _ => 0))), (q_21, .inl (cA_22, 16, .inl (fun _ => 0))), (q_23, .inl (cA_24, 20000, .inl (fun _ => 0))), (q_25, .inl (cA_26, 20000, .inl (fun _ => 0))), (q_27, .inl (cA_28, 12, .inl (upd (upd (upd (fun _ => 0) (0 : Int32).toNatClampNeg 31) (1 : Int32).toNatClampNeg 28) (2 : Int32).toNatClampNeg 31)))] := hD
  refine lv_dup hx hb dX10_init_138 rfl ?_
  refine lv_iconst (v := 3) hx hb dX10_init_139 (by decide) ?_
  refine lv_bipush (v := 30) hx hb dX10_init_140 (by decide) ?_
  refine va_iast hx hb hK hP hD hS 14 13 rfl rfl (vp_in_lit (by decide)) dX10_init_142 (fun H locs hP hD hS => ?_)
  have hP : va_P (dC, dI) vwCl [(h0, .inr (8, [.int 0, .ref q_1, .ref q_3, .ref q_5, .ref q_7, .ref q_9, .int 0, .ref q_11, .int 0, .int 0, .int 0, .int 0, .int 0, .int 0, .int (-1), .ref q_13, .ref q_15, .int 0, .int 0, .int 0, .ref q_17, .ref q_19, .long 0, .ref q_21, .ref q_23, .ref q_25, .null, .null, .null, .null, .null, .null, .null])), (q_1, .inl (cA_2, 1875, .inl (fun _ => 0))), (q_3, .inl (cA_4, 5625, .inl (fun _ => 0))), (q_5, .inl (cA_6, 3, .inl (fun _ => 0))), (q_7, .inl (cA_8, 20000, .inl (fun _ => 0))), (q_9, .inl (cA_10, 1200, .inl (fun _ => 0))), (q_11, .inl (cA_12, 5, .inl (fun _ => 0))), (q_13, .inl (cA_14, 1875, .inl (fun _ => 0))), (q_15, .inl (cA_16, 78, .inl (fun _ => 0))), (q_17, .inl (cA_18, 12, .inl (fun _ => 0))), (q_19, .inl (cA_20, 26, .inl (fun _ => 0))), (q_21, .inl (cA_22, 16, .inl (fun _ => 0))), (q_23, .inl (cA_24, 20000, .inl (fun _ => 0))), (q_25, .inl (cA_26, 20000, .inl (fun _ => 0))), (q_27, .inl (cA_28, 12, .inl (upd (upd (upd (upd (fun _ => 0) (0 : Int32).toNatClampNeg 31) (1 : Int32).toNatClampNeg 28) (2 : Int32).toNatClampNeg 31) (3 : Int32).toNatClampNeg 30)))] H := hP
  have hD : va_D A [(h0, .inr (8, [.int 0, .ref q_1, .ref q_3, .ref q_5, .ref q_7, .ref q_9, .int 0, .ref q_11, .int 0, .int 0, .int 0, .int 0, .int 0, .int 0, .int (-1), .ref q_13, .ref q_15, .int 0, .int 0, .int 0, .ref q_17, .ref q_19, .long 0, .ref q_21, .ref q_23, .ref q_25, .null, .null, .null, .null, .null, .null, .null])), (q_1, .inl (cA_2, 1875, .inl (fun _ => 0))), (q_3, .inl (cA_4, 5625, .inl (fun _ => 0))), (q_5, .inl (cA_6, 3, .inl (fun _ => 0))), (q_7, .inl (cA_8, 20000, .inl (fun _ => 0))), (q_9, .inl (cA_10, 1200, .inl (fun _ => 0))), (q_11, .inl (cA_12, 5, .inl (fun _ => 0))), (q_13, .inl (cA_14, 1875, .inl (fun _ => 0))), (q_15, .inl (cA_16, 78, .inl (fun _ => 0))), (q_17, .inl (cA_18, 12, .inl (fun _ => 0))), (q_19, .inl (cA_20, 26, .inl (fun _ => 0))), (q_21, .inl (cA_22, 16, .inl (fun _ => 0))), (q_23, .inl (cA_24, 20000, .inl (fun _ => 0))), (q_25, .inl (cA_26, 20000, .inl (fun _ => 0))), (q_27, .inl (cA_28, 12, .inl (upd (upd (upd (upd (fun _ => 0) (0 : Int32).toNatClampNeg 31) (1 : Int32).toNatClampNeg 28) (2 : Int32).toNatClampNeg 31) (3 : Int32).toNatClampNeg 30)))] := hD
  refine lv_dup hx hb dX10_init_143 rfl ?_
  refine lv_iconst (v := 4) hx hb dX10_init_144 (by decide) ?_
  refine lv_bipush (v := 31) hx hb dX10_init_145 (by decide) ?_
  refine va_iast hx hb hK hP hD hS 14 13 rfl rfl (vp_in_lit (by decide)) dX10_init_147 (fun H locs hP hD hS => ?_)
  have hP : va_P (dC, dI) vwCl [(h0, .inr (8, [.int 0, .ref q_1, .ref q_3, .ref q_5, .ref q_7, .ref q_9, .int 0, .ref q_11, .int 0, .int 0, .int 0, .int 0, .int 0, .int 0, .int (-1), .ref q_13, .ref q_15, .int 0, .int 0, .int 0, .ref q_17, .ref q_19, .long 0, .ref q_21, .ref q_23, .ref q_25, .null, .null, .null, .null, .null, .null, .null])), (q_1, .inl (cA_2, 1875, .inl (fun _ => 0))), (q_3, .inl (cA_4, 5625, .inl (fun _ => 0))), (q_5, .inl (cA_6, 3, .inl (fun _ => 0))), (q_7, .inl (cA_8, 20000, .inl (fun _ => 0))), (q_9, .inl (cA_10, 1200, .inl (fun _ => 0))), (q_11, .inl (cA_12, 5, .inl (fun _ => 0))), (q_13, .inl (cA_14, 1875, .inl (fun _ => 0))), (q_15, .inl (cA_16, 78, .inl (fun _ => 0))), (q_17, .inl (cA_18, 12, .inl (fun _ => 0))), (q_19, .inl (cA_20, 26, .inl (fun _ => 0))), (q_21, .inl (cA_22, 16, .inl (fun _ => 0))), (q_23, .inl (cA_24, 20000, .inl (fun _ => 0))), (q_25, .inl (cA_26, 20000, .inl (fun _ => 0))), (q_27, .inl (cA_28, 12, .inl (upd (upd (upd (upd (upd (fun _ => 0) (0 : Int32).toNatClampNeg 31) (1 : Int32).toNatClampNeg 28) (2 : Int32).toNatClampNeg 31) (3 : Int32).toNatClampNeg 30) (4 : Int32).toNatClampNeg 31)))] H := hP
  have hD : va_D A [(h0, .inr (8, [.int 0, .ref q_1, .ref q_3, .ref q_5, .ref q_7, .ref q_9, .int 0, .ref q_11, .int 0, .int 0, .int 0, .int 0, .int 0, .int 0, .int (-1), .ref q_13, .ref q_15, .int 0, .int 0, .int 0, .ref q_17, .ref q_19, .long 0, .ref q_21, .ref q_23, .ref q_25, .null, .null, .null, .null, .null, .null, .null])), (q_1, .inl (cA_2, 1875, .inl (fun _ => 0))), (q_3, .inl (cA_4, 5625, .inl (fun _ => 0))), (q_5, .inl (cA_6, 3, .inl (fun _ => 0))), (q_7, .inl (cA_8, 20000, .inl (fun _ => 0))), (q_9, .inl (cA_10, 1200, .inl (fun _ => 0))), (q_11, .inl (cA_12, 5, .inl (fun _ => 0))), (q_13, .inl (cA_14, 1875, .inl (fun _ => 0))), (q_15, .inl (cA_16, 78, .inl (fun _ => 0))), (q_17, .inl (cA_18, 12, .inl (fun _ => 0))), (q_19, .inl (cA_20, 26, .inl (fun _ => 0))), (q_21, .inl (cA_22, 16, .inl (fun _ => 0))), (q_23, .inl (cA_24, 20000, .inl (fun _ => 0))), (q_25, .inl (cA_26, 20000, .inl (fun _ => 0))), (q_27, .inl (cA_28, 12, .inl (upd (upd (upd (upd (upd (fun _ => 0) (0 : Int32).toNatClampNeg 31) (1 : Int32).toNatClampNeg 28) (2 : Int32).toNatClampNeg 31) (3 : Int32).toNatClampNeg 30) (4 : Int32).toNatClampNeg 31)))] := hD
  refine lv_dup hx hb dX10_init_148 rfl ?_
  refine lv_iconst (v := 5) hx hb dX10_init_149 (by decide) ?_
  refine lv_bipush (v := 30) hx hb dX10_init_150 (by decide) ?_
  refine va_iast hx hb hK hP hD hS 14 13 rfl rfl (vp_in_lit (by decide)) dX10_init_152 (fun H locs hP hD hS => ?_)
  have hP : va_P (dC, dI) vwCl [(h0, .inr (8, [.int 0, .ref q_1, .ref q_3, .ref q_5, .ref q_7, .ref q_9, .int 0, .ref q_11, .int 0, .int 0, .int 0, .int 0, .int 0, .int 0, .int (-1), .ref q_13, .ref q_15, .int 0, .int 0, .int 0, .ref q_17, .ref q_19, .long 0, .ref q_21, .ref q_23, .ref q_25, .null, .null, .null, .null, .null, .null, .null])), (q_1, .inl (cA_2, 1875, .inl (fun _ => 0))), (q_3, .inl (cA_4, 5625, .inl (fun _ => 0))), (q_5, .inl (cA_6, 3, .inl (fun _ => 0))), (q_7, .inl (cA_8, 20000, .inl (fun _ => 0))), (q_9, .inl (cA_10, 1200, .inl (fun _ => 0))), (q_11, .inl (cA_12, 5, .inl (fun _ => 0))), (q_13, .inl (cA_14, 1875, .inl (fun _ => 0))), (q_15, .inl (cA_16, 78, .inl (fun _ => 0))), (q_17, .inl (cA_18, 12, .inl (fun _ => 0))), (q_19, .inl (cA_20, 26, .inl (fun _ => 0))), (q_21, .inl (cA_22, 16, .inl (fun _ => 0))), (q_23, .inl (cA_24, 20000, .inl (fun _ => 0))), (q_25, .inl (cA_26, 20000, .inl (fun _ => 0))), (q_27, .inl (cA_28, 12, .inl (upd (upd (upd (upd (upd (upd (fun _ => 0) (0 : Int32).toNatClampNeg 31) (1 : Int32).toNatClampNeg 28) (2 : Int32).toNatClampNeg 31) (3 : Int32).toNatClampNeg 30) (4 : Int32).toNatClampNeg 31) (5 : Int32).toNatClampNeg 30)))] H := hP
  have hD : va_D A [(h0, .inr (8, [.int 0, .ref q_1, .ref q_3, .ref q_5, .ref q_7, .ref q_9, .int 0, .ref q_11, .int 0, .int 0, .int 0, .int 0, .int 0, .int 0, .int (-1), .ref q_13, .ref q_15, .int 0, .int 0, .int 0, .ref q_17, .ref q_19, .long 0, .ref q_21, .ref q_23, .ref q_25, .null, .null, .null, .null, .null, .null, .null])), (q_1, .inl (cA_2, 1875, .inl (fun _ => 0))), (q_3, .inl (cA_4, 5625, .inl (fun _ => 0))), (q_5, .inl (cA_6, 3, .inl (fun _ => 0))), (q_7, .inl (cA_8, 20000, .inl (fun _ => 0))), (q_9, .inl (cA_10, 1200, .inl (fun _ => 0))), (q_11, .inl (cA_12, 5, .inl (fun _ => 0))), (q_13, .inl (cA_14, 1875, .inl (fun _ => 0))), (q_15, .inl (cA_16, 78, .inl (fun _ => 0))), (q_17, .inl (cA_18, 12, .inl (fun _ => 0))), (q_19, .inl (cA_20, 26, .inl (fun _ => 0))), (q_21, .inl (cA_22, 16, .inl (fun _ => 0))), (q_23, .inl (cA_24, 20000, .inl (fun _ => 0))), (q_25, .inl (cA_26, 20000, .inl (fun _ => 0))), (q_27, .inl (cA_28, 12, .inl (upd (upd (upd (upd (upd (upd (fun _ => 0) (0 : Int32).toNatClampNeg 31) (1 : Int32).toNatClampNeg 28) (2 : Int32).toNatClampNeg 31) (3 : Int32).toNatClampNeg 30) (4 : Int32).toNatClampNeg 31) (5 : Int32).toNatClampNeg 30)))] := hD
  refine lv_dup hx hb dX10_init_153 rfl ?_
  refine lv_bipush (v := 6) hx hb dX10_init_154 (by decide) ?_
  refine lv_bipush (v := 31) hx hb dX10_init_156 (by decide) ?_
  refine va_iast hx hb hK hP hD hS 14 13 rfl rfl (vp_in_lit (by decide)) dX10_init_158 (fun H locs hP hD hS => ?_)
  have hP : va_P (dC, dI) vwCl [(h0, .inr (8, [.int 0, .ref q_1, .ref q_3, .ref q_5, .ref q_7, .ref q_9, .int 0, .ref q_11, .int 0, .int 0, .int 0, .int 0, .int 0, .int 0, .int (-1), .ref q_13, .ref q_15, .int 0, .int 0, .int 0, .ref q_17, .ref q_19, .long 0, .ref q_21, .ref q_23, .ref q_25, .null, .null, .null, .null, .null, .null, .null])), (q_1, .inl (cA_2, 1875, .inl (fun _ => 0))), (q_3, .inl (cA_4, 5625, .inl (fun _ => 0))), (q_5, .inl (cA_6, 3, .inl (fun _ => 0))), (q_7, .inl (cA_8, 20000, .inl (fun _ => 0))), (q_9, .inl (cA_10, 1200, .inl (fun _ => 0))), (q_11, .inl (cA_12, 5, .inl (fun _ => 0))), (q_13, .inl (cA_14, 1875, .inl (fun _ => 0))), (q_15, .inl (cA_16, 78, .inl (fun _ => 0))), (q_17, .inl (cA_18, 12, .inl (fun _ => 0))), (q_19, .inl (cA_20, 26, .inl (fun _ => 0))), (q_21, .inl (cA_22, 16, .inl (fun _ => 0))), (q_23, .inl (cA_24, 20000, .inl (fun _ => 0))), (q_25, .inl (cA_26, 20000, .inl (fun _ => 0))), (q_27, .inl (cA_28, 12, .inl (upd (upd (upd (upd (upd (upd (upd (fun _ => 0) (0 : Int32).toNatClampNeg 31) (1 : Int32).toNatClampNeg 28) (2 : Int32).toNatClampNeg 31) (3 : Int32).toNatClampNeg 30) (4 : Int32).toNatClampNeg 31) (5 : Int32).toNatClampNeg 30) (6 : Int32).toNatClampNeg 31)))] H := hP
  have hD : va_D A [(h0, .inr (8, [.int 0, .ref q_1, .ref q_3, .ref q_5, .ref q_7, .ref q_9, .int 0, .ref q_11, .int 0, .int 0, .int 0, .int 0, .int 0, .int 0, .int (-1), .ref q_13, .ref q_15, .int 0, .int 0, .int 0, .ref q_17, .ref q_19, .long 0, .ref q_21, .ref q_23, .ref q_25, .null, .null, .null, .null, .null, .null, .null])), (q_1, .inl (cA_2, 1875, .inl (fun _ => 0))), (q_3, .inl (cA_4, 5625, .inl (fun _ => 0))), (q_5, .inl (cA_6, 3, .inl (fun _ => 0))), (q_7, .inl (cA_8, 20000, .inl (fun _ => 0))), (q_9, .inl (cA_10, 1200, .inl (fun _ => 0))), (q_11, .inl (cA_12, 5, .inl (fun _ => 0))), (q_13, .inl (cA_14, 1875, .inl (fun _ => 0))), (q_15, .inl (cA_16, 78, .inl (fun _ => 0))), (q_17, .inl (cA_18, 12, .inl (fun _ => 0))), (q_19, .inl (cA_20, 26, .inl (fun _ => 0))), (q_21, .inl (cA_22, 16, .inl (fun _ => 0))), (q_23, .inl (cA_24, 20000, .inl (fun _ => 0))), (q_25, .inl (cA_26, 20000, .inl (fun _ => 0))), (q_27, .inl (cA_28, 12, .inl (upd (upd (upd (upd (upd (upd (upd (fun _ => 0) (0 : Int32).toNatClampNeg 31) (1 : Int32).toNatClampNeg 28) (2 : Int32).toNatClampNeg 31) (3 : Int32).toNatClampNeg 30) (4 : Int32).toNatClampNeg 31) (5 : Int32).toNatClampNeg 30) (6 : Int32).toNatClampNeg 31)))] := hD
  refine lv_dup hx hb dX10_init_159 rfl ?_
  refine lv_bipush (v := 7) hx hb dX10_init_160 (by decide) ?_
  refine lv_bipush (v := 31) hx hb dX10_init_162 (by decide) ?_
  refine va_iast hx hb hK hP hD hS 14 13 rfl rfl (vp_in_lit (by decide)) dX10_init_164 (fun H locs hP hD hS => ?_)
  have hP : va_P (dC, dI) vwCl [(h0, .inr (8, [.int 0, .ref q_1, .ref q_3, .ref q_5, .ref q_7, .ref q_9, .int 0, .ref q_11, .int 0, .int 0, .int 0, .int 0, .int 0, .int 0, .int (-1), .ref q_13, .ref q_15, .int 0, .int 0, .int 0, .ref q_17, .ref q_19, .long 0, .ref q_21, .ref q_23, .ref q_25, .null, .null, .null, .null, .null, .null, .null])), (q_1, .inl (cA_2, 1875, .inl (fun _ => 0))), (q_3, .inl (cA_4, 5625, .inl (fun _ => 0))), (q_5, .inl (cA_6, 3, .inl (fun _ => 0))), (q_7, .inl (cA_8, 20000, .inl (fun _ => 0))), (q_9, .inl (cA_10, 1200, .inl (fun _ => 0))), (q_11, .inl (cA_12, 5, .inl (fun _ => 0))), (q_13, .inl (cA_14, 1875, .inl (fun _ => 0))), (q_15, .inl (cA_16, 78, .inl (fun _ => 0))), (q_17, .inl (cA_18, 12, .inl (fun _ => 0))), (q_19, .inl (cA_20, 26, .inl (fun _ => 0))), (q_21, .inl (cA_22, 16, .inl (fun _ => 0))), (q_23, .inl (cA_24, 20000, .inl (fun _ => 0))), (q_25, .inl (cA_26, 20000, .inl (fun _ => 0))), (q_27, .inl (cA_28, 12, .inl (upd (upd (upd (upd (upd (upd (upd (upd (fun _ => 0) (0 : Int32).toNatClampNeg 31) (1 : Int32).toNatClampNeg 28) (2 : Int32).toNatClampNeg 31) (3 : Int32).toNatClampNeg 30) (4 : Int32).toNatClampNeg 31) (5 : Int32).toNatClampNeg 30) (6 : Int32).toNatClampNeg 31) (7 : Int32).toNatClampNeg 31)))] H := hP
  have hD : va_D A [(h0, .inr (8, [.int 0, .ref q_1, .ref q_3, .ref q_5, .ref q_7, .ref q_9, .int 0, .ref q_11, .int 0, .int 0, .int 0, .int 0, .int 0, .int 0, .int (-1), .ref q_13, .ref q_15, .int 0, .int 0, .int 0, .ref q_17, .ref q_19, .long 0, .ref q_21, .ref q_23, .ref q_25, .null, .null, .null, .null, .null, .null, .null])), (q_1, .inl (cA_2, 1875, .inl (fun _ => 0))), (q_3, .inl (cA_4, 5625, .inl (fun _ => 0))), (q_5, .inl (cA_6, 3, .inl (fun _ => 0))), (q_7, .inl (cA_8, 20000, .inl (fun _ => 0))), (q_9, .inl (cA_10, 1200, .inl (fun _ => 0))), (q_11, .inl (cA_12, 5, .inl (fun _ => 0))), (q_13, .inl (cA_14, 1875, .inl (fun _ => 0))), (q_15, .inl (cA_16, 78, .inl (fun _ => 0))), (q_17, .inl (cA_18, 12, .inl (fun _ => 0))), (q_19, .inl (cA_20, 26, .inl (fun _ => 0))), (q_21, .inl (cA_22, 16, .inl (fun _ => 0))), (q_23, .inl (cA_24, 20000, .inl (fun _ => 0))), (q_25, .inl (cA_26, 20000, .inl (fun _ => 0))), (q_27, .inl (cA_28, 12, .inl (upd (upd (upd (upd (upd (upd (upd (upd (fun _ => 0) (0 : Int32).toNatClampNeg 31) (1 : Int32).toNatClampNeg 28) (2 : Int32).toNatClampNeg 31) (3 : Int32).toNatClampNeg 30) (4 : Int32).toNatClampNeg 31) (5 : Int32).toNatClampNeg 30) (6 : Int32).toNatClampNeg 31) (7 : Int32).toNatClampNeg 31)))] := hD
  refine lv_dup hx hb dX10_init_165 rfl ?_
  refine lv_bipush (v := 8) hx hb dX10_init_166 (by decide) ?_
  refine lv_bipush (v := 30) hx hb dX10_init_168 (by decide) ?_
  refine va_iast hx hb hK hP hD hS 14 13 rfl rfl (vp_in_lit (by decide)) dX10_init_170 (fun H locs hP hD hS => ?_)
  have hP : va_P (dC, dI) vwCl [(h0, .inr (8, [.int 0, .ref q_1, .ref q_3, .ref q_5, .ref q_7, .ref q_9, .int 0, .ref q_11, .int 0, .int 0, .int 0, .int 0, .int 0, .int 0, .int (-1), .ref q_13, .ref q_15, .int 0, .int 0, .int 0, .ref q_17, .ref q_19, .long 0, .ref q_21, .ref q_23, .ref q_25, .null, .null, .null, .null, .null, .null, .null])), (q_1, .inl (cA_2, 1875, .inl (fun _ => 0))), (q_3, .inl (cA_4, 5625, .inl (fun _ => 0))), (q_5, .inl (cA_6, 3, .inl (fun _ => 0))), (q_7, .inl (cA_8, 20000, .inl (fun _ => 0))), (q_9, .inl (cA_10, 1200, .inl (fun _ => 0))), (q_11, .inl (cA_12, 5, .inl (fun _ => 0))), (q_13, .inl (cA_14, 1875, .inl (fun _ => 0))), (q_15, .inl (cA_16, 78, .inl (fun _ => 0))), (q_17, .inl (cA_18, 12, .inl (fun _ => 0))), (q_19, .inl (cA_20, 26, .inl (fun _ => 0))), (q_21, .inl (cA_22, 16, .inl (fun _ => 0))), (q_23, .inl (cA_24, 20000, .inl (fun _ => 0))), (q_25, .inl (cA_26, 20000, .inl (fun _ => 0))), (q_27, .inl (cA_28, 12, .inl (upd (upd (upd (upd (upd (upd (upd (upd (upd (fun _ => 0) (0 : Int32).toNatClampNeg 31) (1 : Int32).toNatClampNeg 28) (2 : Int32).toNatClampNeg 31) (3 : Int32).toNatClampNeg 30) (4 : Int32).toNatClampNeg 31) (5 : Int32).toNatClampNeg 30) (6 : Int32).toNatClampNeg 31) (7 : Int32).toNatClampNeg 31) (8 : Int32).toNatClampNeg 30)))] H := hP
  have hD : va_D A [(h0, .inr (8, [.int 0, .ref q_1, .ref q_3, .ref q_5, .ref q_7, .ref q_9, .int 0, .ref q_11, .int 0, .int 0, .int 0, .int 0, .int 0, .int 0, .int (-1), .ref q_13, .ref q_15, .int 0, .int 0, .int 0, .ref q_17, .ref q_19, .long 0, .ref q_21, .ref q_23, .ref q_25, .null, .null, .null, .null, .null, .null, .null])), (q_1, .inl (cA_2, 1875, .inl (fun _ => 0))), (q_3, .inl (cA_4, 5625, .inl (fun _ => 0))), (q_5, .inl (cA_6, 3, .inl (fun _ => 0))), (q_7, .inl (cA_8, 20000, .inl (fun _ => 0))), (q_9, .inl (cA_10, 1200, .inl (fun _ => 0))), (q_11, .inl (cA_12, 5, .inl (fun _ => 0))), (q_13, .inl (cA_14, 1875, .inl (fun _ => 0))), (q_15, .inl (cA_16, 78, .inl (fun _ => 0))), (q_17, .inl (cA_18, 12, .inl (fun _ => 0))), (q_19, .inl (cA_20, 26, .inl (fun _ => 0))), (q_21, .inl (cA_22, 16, .inl (fun _ => 0))), (q_23, .inl (cA_24, 20000, .inl (fun _ => 0))), (q_25, .inl (cA_26, 20000, .inl (fun _ => 0))), (q_27, .inl (cA_28, 12, .inl (upd (upd (upd (upd (upd (upd (upd (upd (upd (fun _ => 0) (0 : Int32).toNatClampNeg 31) (1 : Int32).toNatClampNeg 28) (2 : Int32).toNatClampNeg 31) (3 : Int32).toNatClampNeg 30) (4 : Int32).toNatClampNeg 31) (5 : Int32).toNatClampNeg 30) (6 : Int32).toNatClampNeg 31) (7 : Int32).toNatClampNeg 31) (8 : Int32).toNatClampNeg 30)))] := hD
  refine lv_dup hx hb dX10_init_171 rfl ?_
  refine lv_bipush (v := 9) hx hb dX10_init_172 (by decide) ?_
  refine lv_bipush (v := 31) hx hb dX10_init_174 (by decide) ?_
  refine va_iast hx hb hK hP hD hS 14 13 rfl rfl (vp_in_lit (by decide)) dX10_init_176 (fun H locs hP hD hS => ?_)
  have hP : va_P (dC, dI) vwCl [(h0, .inr (8, [.int 0, .ref q_1, .ref q_3, .ref q_5, .ref q_7, .ref q_9, .int 0, .ref q_11, .int 0, .int 0, .int 0, .int 0, .int 0, .int 0, .int (-1), .ref q_13, .ref q_15, .int 0, .int 0, .int 0, .ref q_17, .ref q_19, .long 0, .ref q_21, .ref q_23, .ref q_25, .null, .null, .null, .null, .null, .null, .null])), (q_1, .inl (cA_2, 1875, .inl (fun _ => 0))), (q_3, .inl (cA_4, 5625, .inl (fun _ => 0))), (q_5, .inl (cA_6, 3, .inl (fun _ => 0))), (q_7, .inl (cA_8, 20000, .inl (fun _ => 0))), (q_9, .inl (cA_10, 1200, .inl (fun _ => 0))), (q_11, .inl (cA_12, 5, .inl (fun _ => 0))), (q_13, .inl (cA_14, 1875, .inl (fun _ => 0))), (q_15, .inl (cA_16, 78, .inl (fun _ => 0))), (q_17, .inl (cA_18, 12, .inl (fun _ => 0))), (q_19, .inl (cA_20, 26, .inl (fun _ => 0))), (q_21, .inl (cA_22, 16, .inl (fun _ => 0))), (q_23, .inl (cA_24, 20000, .inl (fun _ => 0))), (q_25, .inl (cA_26, 20000, .inl (fun _ => 0))), (q_27, .inl (cA_28, 12, .inl (upd (upd (upd (upd (upd (upd (upd (upd (upd (upd (fun _ => 0) (0 : Int32).toNatClampNeg 31) (1 : Int32).toNatClampNeg 28) (2 : Int32).toNatClampNeg 31) (3 : Int32).toNatClampNeg 30) (4 : Int32).toNatClampNeg 31) (5 : Int32).toNatClampNeg 30) (6 : Int32).toNatClampNeg 31) (7 : Int32).toNatClampNeg 31) (8 : Int32).toNatClampNeg 30) (9 : Int32).toNatClampNeg 31)))] H := hP
  have hD : va_D A [(h0, .inr (8, [.int 0, .ref q_1, .ref q_3, .ref q_5, .ref q_7, .ref q_9, .int 0, .ref q_11, .int 0, .int 0, .int 0, .int 0, .int 0, .int 0, .int (-1), .ref q_13, .ref q_15, .int 0, .int 0, .int 0, .ref q_17, .ref q_19, .long 0, .ref q_21, .ref q_23, .ref q_25, .null, .null, .null, .null, .null, .null, .null])), (q_1, .inl (cA_2, 1875, .inl (fun _ => 0))), (q_3, .inl (cA_4, 5625, .inl (fun _ => 0))), (q_5, .inl (cA_6, 3, .inl (fun _ => 0))), (q_7, .inl (cA_8, 20000, .inl (fun _ => 0))), (q_9, .inl (cA_10, 1200, .inl (fun _ => 0))), (q_11, .inl (cA_12, 5, .inl (fun _ => 0))), (q_13, .inl (cA_14, 1875, .inl (fun _ => 0))), (q_15, .inl (cA_16, 78, .inl (fun _ => 0))), (q_17, .inl (cA_18, 12, .inl (fun _ => 0))), (q_19, .inl (cA_20, 26, .inl (fun _ => 0))), (q_21, .inl (cA_22, 16, .inl (fun _ => 0))), (q_23, .inl (cA_24, 20000, .inl (fun _ => 0))), (q_25, .inl (cA_26, 20000, .inl (fun _ => 0))), (q_27, .inl (cA_28, 12, .inl (upd (upd (upd (upd (upd (upd (upd (upd (upd (upd (fun _ => 0) (0 : Int32).toNatClampNeg 31) (1 : Int32).toNatClampNeg 28) (2 : Int32).toNatClampNeg 31) (3 : Int32).toNatClampNeg 30) (4 : Int32).toNatClampNeg 31) (5 : Int32).toNatClampNeg 30) (6 : Int32).toNatClampNeg 31) (7 : Int32).toNatClampNeg 31) (8 : Int32).toNatClampNeg 30) (9 : Int32).toNatClampNeg 31)))] := hD
  refine lv_dup hx hb dX10_init_177 rfl ?_
  refine lv_bipush (v := 10) hx hb dX10_init_178 (by decide) ?_
  refine lv_bipush (v := 30) hx hb dX10_init_180 (by decide) ?_
  refine va_iast hx hb hK hP hD hS 14 13 rfl rfl (vp_in_lit (by decide)) dX10_init_182 (fun H locs hP hD hS => ?_)
  have hP : va_P (dC, dI) vwCl [(h0, .inr (8, [.int 0, .ref q_1, .ref q_3, .ref q_5, .ref q_7, .ref q_9, .int 0, .ref q_11, .int 0, .int 0, .int 0, .int 0, .int 0, .int 0, .int (-1), .ref q_13, .ref q_15, .int 0, .int 0, .int 0, .ref q_17, .ref q_19, .long 0, .ref q_21, .ref q_23, .ref q_25, .null, .null, .null, .null, .null, .null, .null])), (q_1, .inl (cA_2, 1875, .inl (fun _ => 0))), (q_3, .inl (cA_4, 5625, .inl (fun _ => 0))), (q_5, .inl (cA_6, 3, .inl (fun _ => 0))), (q_7, .inl (cA_8, 20000, .inl (fun _ => 0))), (q_9, .inl (cA_10, 1200, .inl (fun _ => 0))), (q_11, .inl (cA_12, 5, .inl (fun _ => 0))), (q_13, .inl (cA_14, 1875, .inl (fun _ => 0))), (q_15, .inl (cA_16, 78, .inl (fun _ => 0))), (q_17, .inl (cA_18, 12, .inl (fun _ => 0))), (q_19, .inl (cA_20, 26, .inl (fun _ => 0))), (q_21, .inl (cA_22, 16, .inl (fun _ => 0))), (q_23, .inl (cA_24, 20000, .inl (fun _ => 0))), (q_25, .inl (cA_26, 20000, .inl (fun _ => 0))), (q_27, .inl (cA_28, 12, .inl (upd (upd (upd (upd (upd (upd (upd (upd (upd (upd (upd (fun _ => 0) (0 : Int32).toNatClampNeg 31) (1 : Int32).toNatClampNeg 28) (2 : Int32).toNatClampNeg 31) (3 : Int32).toNatClampNeg 30) (4 : Int32).toNatClampNeg 31) (5 : Int32).toNatClampNeg 30) (6 : Int32).toNatClampNeg 31) (7 : Int32).toNatClampNeg 31) (8 : Int32).toNatClampNeg 30) (9 : Int32).toNatClampNeg 31) (10 : Int32).toNatClampNeg 30)))] H := hP
  have hD : va_D A [(h0, .inr (8, [.int 0, .ref q_1, .ref q_3, .ref q_5, .ref q_7, .ref q_9, .int 0, .ref q_11, .int 0, .int 0, .int 0, .int 0, .int 0, .int 0, .int (-1), .ref q_13, .ref q_15, .int 0, .int 0, .int 0, .ref q_17, .ref q_19, .long 0, .ref q_21, .ref q_23, .ref q_25, .null, .null, .null, .null, .null, .null, .null])), (q_1, .inl (cA_2, 1875, .inl (fun _ => 0))), (q_3, .inl (cA_4, 5625, .inl (fun _ => 0))), (q_5, .inl (cA_6, 3, .inl (fun _ => 0))), (q_7, .inl (cA_8, 20000, .inl (fun _ => 0))), (q_9, .inl (cA_10, 1200, .inl (fun _ => 0))), (q_11, .inl (cA_12, 5, .inl (fun _ => 0))), (q_13, .inl (cA_14, 1875, .inl (fun _ => 0))), (q_15, .inl (cA_16, 78, .inl (fun _ => 0))), (q_17, .inl (cA_18, 12, .inl (fun _ => 0))), (q_19, .inl (cA_20, 26, .inl (fun _ => 0))), (q_21, .inl (cA_22, 16, .inl (fun _ => 0))), (q_23, .inl (cA_24, 20000, .inl (fun _ => 0))), (q_25, .inl (cA_26, 20000, .inl (fun _ => 0))), (q_27, .inl (cA_28, 12, .inl (upd (upd (upd (upd (upd (upd (upd (upd (upd (upd (upd (fun _ => 0) (0 : Int32).toNatClampNeg 31) (1 : Int32).toNatClampNeg 28) (2 : Int32).toNatClampNeg 31) (3 : Int32).toNatClampNeg 30) (4 : Int32).toNatClampNeg 31) (5 : Int32).toNatClampNeg 30) (6 : Int32).toNatClampNeg 31) (7 : Int32).toNatClampNeg 31) (8 : Int32).toNatClampNeg 30) (9 : Int32).toNatClampNeg 31) (10 : Int32).toNatClampNeg 30)))] := hD
  refine lv_dup hx hb dX10_init_183 rfl ?_
  refine lv_bipush (v := 11) hx hb dX10_init_184 (by decide) ?_
  refine lv_bipush (v := 31) hx hb dX10_init_186 (by decide) ?_
  refine va_iast hx hb hK hP hD hS 14 13 rfl rfl (vp_in_lit (by decide)) dX10_init_188 (fun H locs hP hD hS => ?_)
  have hP : va_P (dC, dI) vwCl [(h0, .inr (8, [.int 0, .ref q_1, .ref q_3, .ref q_5, .ref q_7, .ref q_9, .int 0, .ref q_11, .int 0, .int 0, .int 0, .int 0, .int 0, .int 0, .int (-1), .ref q_13, .ref q_15, .int 0, .int 0, .int 0, .ref q_17, .ref q_19, .long 0, .ref q_21, .ref q_23, .ref q_25, .null, .null, .null, .null, .null, .null, .null])), (q_1, .inl (cA_2, 1875, .inl (fun _ => 0))), (q_3, .inl (cA_4, 5625, .inl (fun _ => 0))), (q_5, .inl (cA_6, 3, .inl (fun _ => 0))), (q_7, .inl (cA_8, 20000, .inl (fun _ => 0))), (q_9, .inl (cA_10, 1200, .inl (fun _ => 0))), (q_11, .inl (cA_12, 5, .inl (fun _ => 0))), (q_13, .inl (cA_14, 1875, .inl (fun _ => 0))), (q_15, .inl (cA_16, 78, .inl (fun _ => 0))), (q_17, .inl (cA_18, 12, .inl (fun _ => 0))), (q_19, .inl (cA_20, 26, .inl (fun _ => 0))), (q_21, .inl (cA_22, 16, .inl (fun _ => 0))), (q_23, .inl (cA_24, 20000, .inl (fun _ => 0))), (q_25, .inl (cA_26, 20000, .inl (fun _ => 0))), (q_27, .inl (cA_28, 12, .inl (upd (upd (upd (upd (upd (upd (upd (upd (upd (upd (upd (upd (fun _ => 0) (0 : Int32).toNatClampNeg 31) (1 : Int32).toNatClampNeg 28) (2 : Int32).toNatClampNeg 31) (3 : Int32).toNatClampNeg 30) (4 : Int32).toNatClampNeg 31) (5 : Int32).toNatClampNeg 30) (6 : Int32).toNatClampNeg 31) (7 : Int32).toNatClampNeg 31) (8 : Int32).toNatClampNeg 30) (9 : Int32).toNatClampNeg 31) (10 : Int32).toNatClampNeg 30) (11 : Int32).toNatClampNeg 31)))] H := hP
  have hD : va_D A [(h0, .inr (8, [.int 0, .ref q_1, .ref q_3, .ref q_5, .ref q_7, .ref q_9, .int 0, .ref q_11, .int 0, .int 0, .int 0, .int 0, .int 0, .int 0, .int (-1), .ref q_13, .ref q_15, .int 0, .int 0, .int 0, .ref q_17, .ref q_19, .long 0, .ref q_21, .ref q_23, .ref q_25, .null, .null, .null, .null, .null, .null, .null])), (q_1, .inl (cA_2, 1875, .inl (fun _ => 0))), (q_3, .inl (cA_4, 5625, .inl (fun _ => 0))), (q_5, .inl (cA_6, 3, .inl (fun _ => 0))), (q_7, .inl (cA_8, 20000, .inl (fun _ => 0))), (q_9, .inl (cA_10, 1200, .inl (fun _ => 0))), (q_11, .inl (cA_12, 5, .inl (fun _ => 0))), (q_13, .inl (cA_14, 1875, .inl (fun _ => 0))), (q_15, .inl (cA_16, 78, .inl (fun _ => 0))), (q_17, .inl (cA_18, 12, .inl (fun _ => 0))), (q_19, .inl (cA_20, 26, .inl (fun _ => 0))), (q_21, .inl (cA_22, 16, .inl (fun _ => 0))), (q_23, .inl (cA_24, 20000, .inl (fun _ => 0))), (q_25, .inl (cA_26, 20000, .inl (fun _ => 0))), (q_27, .inl (cA_28, 12, .inl (upd (upd (upd (upd (upd (upd (upd (upd (upd (upd (upd (upd (fun _ => 0) (0 : Int32).toNatClampNeg 31) (1 : Int32).toNatClampNeg 28) (2 : Int32).toNatClampNeg 31) (3 : Int32).toNatClampNeg 30) (4 : Int32).toNatClampNeg 31) (5 : Int32).toNatClampNeg 30) (6 : Int32).toNatClampNeg 31) (7 : Int32).toNatClampNeg 31) (8 : Int32).toNatClampNeg 30) (9 : Int32).toNatClampNeg 31) (10 : Int32).toNatClampNeg 30) (11 : Int32).toNatClampNeg 31)))] := hD
  refine va_putF (D := (dC, dI)) (ci := 8) (v := .ref q_27) (ty := .array .int) (C := RX10) (T := TX10) (N := 33) hx hb hts iX10_init_X10 tyX10 tyX10_ok nmX10 hown hK hP hD hS 0 rfl rfl 26 (by decide) (hts (.fieldLink RX10 55 "LuckyTicketModel" "months" "[I") (List.mem_of_getElem? (i := 21) rfl)) (fun _ h9 => h9) rfl hin rfl (by decide +kernel) rfl rfl (Nat.le_of_ble_eq_true rfl) dX10_init_189 (fun H locs hP hD hS => ?_)
  have hP : va_P (dC, dI) vwCl [(h0, .inr (8, [.int 0, .ref q_1, .ref q_3, .ref q_5, .ref q_7, .ref q_9, .int 0, .ref q_11, .int 0, .int 0, .int 0, .int 0, .int 0, .int 0, .int (-1), .ref q_13, .ref q_15, .int 0, .int 0, .int 0, .ref q_17, .ref q_19, .long 0, .ref q_21, .ref q_23, .ref q_25, .ref q_27, .null, .null, .null, .null, .null, .null])), (q_1, .inl (cA_2, 1875, .inl (fun _ => 0))), (q_3, .inl (cA_4, 5625, .inl (fun _ => 0))), (q_5, .inl (cA_6, 3, .inl (fun _ => 0))), (q_7, .inl (cA_8, 20000, .inl (fun _ => 0))), (q_9, .inl (cA_10, 1200, .inl (fun _ => 0))), (q_11, .inl (cA_12, 5, .inl (fun _ => 0))), (q_13, .inl (cA_14, 1875, .inl (fun _ => 0))), (q_15, .inl (cA_16, 78, .inl (fun _ => 0))), (q_17, .inl (cA_18, 12, .inl (fun _ => 0))), (q_19, .inl (cA_20, 26, .inl (fun _ => 0))), (q_21, .inl (cA_22, 16, .inl (fun _ => 0))), (q_23, .inl (cA_24, 20000, .inl (fun _ => 0))), (q_25, .inl (cA_26, 20000, .inl (fun _ => 0))), (q_27, .inl (cA_28, 12, .inl (upd (upd (upd (upd (upd (upd (upd (upd (upd (upd (upd (upd (fun _ => 0) (0 : Int32).toNatClampNeg 31) (1 : Int32).toNatClampNeg 28) (2 : Int32).toNatClampNeg 31) (3 : Int32).toNatClampNeg 30) (4 : Int32).toNatClampNeg 31) (5 : Int32).toNatClampNeg 30) (6 : Int32).toNatClampNeg 31) (7 : Int32).toNatClampNeg 31) (8 : Int32).toNatClampNeg 30) (9 : Int32).toNatClampNeg 31) (10 : Int32).toNatClampNeg 30) (11 : Int32).toNatClampNeg 31)))] H := hP
  have hD : va_D A [(h0, .inr (8, [.int 0, .ref q_1, .ref q_3, .ref q_5, .ref q_7, .ref q_9, .int 0, .ref q_11, .int 0, .int 0, .int 0, .int 0, .int 0, .int 0, .int (-1), .ref q_13, .ref q_15, .int 0, .int 0, .int 0, .ref q_17, .ref q_19, .long 0, .ref q_21, .ref q_23, .ref q_25, .ref q_27, .null, .null, .null, .null, .null, .null])), (q_1, .inl (cA_2, 1875, .inl (fun _ => 0))), (q_3, .inl (cA_4, 5625, .inl (fun _ => 0))), (q_5, .inl (cA_6, 3, .inl (fun _ => 0))), (q_7, .inl (cA_8, 20000, .inl (fun _ => 0))), (q_9, .inl (cA_10, 1200, .inl (fun _ => 0))), (q_11, .inl (cA_12, 5, .inl (fun _ => 0))), (q_13, .inl (cA_14, 1875, .inl (fun _ => 0))), (q_15, .inl (cA_16, 78, .inl (fun _ => 0))), (q_17, .inl (cA_18, 12, .inl (fun _ => 0))), (q_19, .inl (cA_20, 26, .inl (fun _ => 0))), (q_21, .inl (cA_22, 16, .inl (fun _ => 0))), (q_23, .inl (cA_24, 20000, .inl (fun _ => 0))), (q_25, .inl (cA_26, 20000, .inl (fun _ => 0))), (q_27, .inl (cA_28, 12, .inl (upd (upd (upd (upd (upd (upd (upd (upd (upd (upd (upd (upd (fun _ => 0) (0 : Int32).toNatClampNeg 31) (1 : Int32).toNatClampNeg 28) (2 : Int32).toNatClampNeg 31) (3 : Int32).toNatClampNeg 30) (4 : Int32).toNatClampNeg 31) (5 : Int32).toNatClampNeg 30) (6 : Int32).toNatClampNeg 31) (7 : Int32).toNatClampNeg 31) (8 : Int32).toNatClampNeg 30) (9 : Int32).toNatClampNeg 31) (10 : Int32).toNatClampNeg 30) (11 : Int32).toNatClampNeg 31)))] := hD
  refine lv_aload_n hx hb dX10_init_192 rfl (lv_at hl 0 rfl) ?_
  refine lv_sipush (v := 201) hx hb dX10_init_193 (by decide) ?_
  refine va_newa (atype := .long) (ty := .long) (a0 := (201, .inr (.inl (fun _ => 0)))) (N' := 201) hx hb (hts (.arrayClass .long) (List.mem_of_getElem? (i := 22) rfl)) rfl hK hP hD hS hA (fun cA => na_long cA 201) (by decide) (by decide) (by decide) (lel 15 20 rfl) (lel 70928 71437 rfl) dX10_init_196 (fun q_29 cA_30 H hK hP hD hS => ?_)
  have hP : va_P (dC, dI) vwCl [(h0, .inr (8, [.int 0, .ref q_1, .ref q_3, .ref q_5, .ref q_7, .ref q_9, .int 0, .ref q_11, .int 0, .int 0, .int 0, .int 0, .int 0, .int 0, .int (-1), .ref q_13, .ref q_15, .int 0, .int 0, .int 0, .ref q_17, .ref q_19, .long 0, .ref q_21, .ref q_23, .ref q_25, .ref q_27, .null, .null, .null, .null, .null, .null])), (q_1, .inl (cA_2, 1875, .inl (fun _ => 0))), (q_3, .inl (cA_4, 5625, .inl (fun _ => 0))), (q_5, .inl (cA_6, 3, .inl (fun _ => 0))), (q_7, .inl (cA_8, 20000, .inl (fun _ => 0))), (q_9, .inl (cA_10, 1200, .inl (fun _ => 0))), (q_11, .inl (cA_12, 5, .inl (fun _ => 0))), (q_13, .inl (cA_14, 1875, .inl (fun _ => 0))), (q_15, .inl (cA_16, 78, .inl (fun _ => 0))), (q_17, .inl (cA_18, 12, .inl (fun _ => 0))), (q_19, .inl (cA_20, 26, .inl (fun _ => 0))), (q_21, .inl (cA_22, 16, .inl (fun _ => 0))), (q_23, .inl (cA_24, 20000, .inl (fun _ => 0))), (q_25, .inl (cA_26, 20000, .inl (fun _ => 0))), (q_27, .inl (cA_28, 12, .inl (upd (upd (upd (upd (upd (upd (upd (upd (upd (upd (upd (upd (fun _ => 0) (0 : Int32).toNatClampNeg 31) (1 : Int32).toNatClampNeg 28) (2 : Int32).toNatClampNeg 31) (3 : Int32).toNatClampNeg 30) (4 : Int32).toNatClampNeg 31) (5 : Int32).toNatClampNeg 30) (6 : Int32).toNatClampNeg 31) (7 : Int32).toNatClampNeg 31) (8 : Int32).toNatClampNeg 30) (9 : Int32).toNatClampNeg 31) (10 : Int32).toNatClampNeg 30) (11 : Int32).toNatClampNeg 31))), (q_29, .inl (cA_30, 201, .inr (.inl (fun _ => 0))))] H := hP
  have hD : va_D A [(h0, .inr (8, [.int 0, .ref q_1, .ref q_3, .ref q_5, .ref q_7, .ref q_9, .int 0, .ref q_11, .int 0, .int 0, .int 0, .int 0, .int 0, .int 0, .int (-1), .ref q_13, .ref q_15, .int 0, .int 0, .int 0, .ref q_17, .ref q_19, .long 0, .ref q_21, .ref q_23, .ref q_25, .ref q_27, .null, .null, .null, .null, .null, .null])), (q_1, .inl (cA_2, 1875, .inl (fun _ => 0))), (q_3, .inl (cA_4, 5625, .inl (fun _ => 0))), (q_5, .inl (cA_6, 3, .inl (fun _ => 0))), (q_7, .inl (cA_8, 20000, .inl (fun _ => 0))), (q_9, .inl (cA_10, 1200, .inl (fun _ => 0))), (q_11, .inl (cA_12, 5, .inl (fun _ => 0))), (q_13, .inl (cA_14, 1875, .inl (fun _ => 0))), (q_15, .inl (cA_16, 78, .inl (fun _ => 0))), (q_17, .inl (cA_18, 12, .inl (fun _ => 0))), (q_19, .inl (cA_20, 26, .inl (fun _ => 0))), (q_21, .inl (cA_22, 16, .inl (fun _ => 0))), (q_23, .inl (cA_24, 20000, .inl (fun _ => 0))), (q_25, .inl (cA_26, 20000, .inl (fun _ => 0))), (q_27, .inl (cA_28, 12, .inl (upd (upd (upd (upd (upd (upd (upd (upd (upd (upd (upd (upd (fun _ => 0) (0 : Int32).toNatClampNeg 31) (1 : Int32).toNatClampNeg 28) (2 : Int32).toNatClampNeg 31) (3 : Int32).toNatClampNeg 30) (4 : Int32).toNatClampNeg 31) (5 : Int32).toNatClampNeg 30) (6 : Int32).toNatClampNeg 31) (7 : Int32).toNatClampNeg 31) (8 : Int32).toNatClampNeg 30) (9 : Int32).toNatClampNeg 31) (10 : Int32).toNatClampNeg 30) (11 : Int32).toNatClampNeg 31))), (q_29, .inl (cA_30, 201, .inr (.inl (fun _ => 0))))] := hD
  have hK : va_K (dC, dI) vwCl [(cA_2, .int), (cA_4, .int), (cA_6, .boolean), (cA_8, .int), (cA_10, .byte), (cA_12, .int), (cA_14, .int), (cA_16, .int), (cA_18, .int), (cA_20, .boolean), (cA_22, .int), (cA_24, .int), (cA_26, .int), (cA_28, .int), (cA_30, .long)] s := hK
  refine W.widen (k := 15) (n := 70928) (lel _ _ rfl) (lel _ _ rfl) ?_
  refine va_putF (D := (dC, dI)) (ci := 8) (v := .ref q_29) (ty := .array .long) (C := RX10) (T := TX10) (N := 33) hx hb hts iX10_init_X10 tyX10 tyX10_ok nmX10 hown hK hP hD hS 0 rfl rfl 27 (by decide) (hts (.fieldLink RX10 58 "LuckyTicketModel" "ways" "[J") (List.mem_of_getElem? (i := 23) rfl)) (fun _ h9 => h9) rfl hin rfl (by decide +kernel) rfl rfl (Nat.le_of_ble_eq_true rfl) dX10_init_198 (fun H locs hP hD hS => ?_)
  have hP : va_P (dC, dI) vwCl [(h0, .inr (8, [.int 0, .ref q_1, .ref q_3, .ref q_5, .ref q_7, .ref q_9, .int 0, .ref q_11, .int 0, .int 0, .int 0, .int 0, .int 0, .int 0, .int (-1), .ref q_13, .ref q_15, .int 0, .int 0, .int 0, .ref q_17, .ref q_19, .long 0, .ref q_21, .ref q_23, .ref q_25, .ref q_27, .ref q_29, .null, .null, .null, .null, .null])), (q_1, .inl (cA_2, 1875, .inl (fun _ => 0))), (q_3, .inl (cA_4, 5625, .inl (fun _ => 0))), (q_5, .inl (cA_6, 3, .inl (fun _ => 0))), (q_7, .inl (cA_8, 20000, .inl (fun _ => 0))), (q_9, .inl (cA_10, 1200, .inl (fun _ => 0))), (q_11, .inl (cA_12, 5, .inl (fun _ => 0))), (q_13, .inl (cA_14, 1875, .inl (fun _ => 0))), (q_15, .inl (cA_16, 78, .inl (fun _ => 0))), (q_17, .inl (cA_18, 12, .inl (fun _ => 0))), (q_19, .inl (cA_20, 26, .inl (fun _ => 0))), (q_21, .inl (cA_22, 16, .inl (fun _ => 0))), (q_23, .inl (cA_24, 20000, .inl (fun _ => 0))), (q_25, .inl (cA_26, 20000, .inl (fun _ => 0))), (q_27, .inl (cA_28, 12, .inl (upd (upd (upd (upd (upd (upd (upd (upd (upd (upd (upd (upd (fun _ => 0) (0 : Int32).toNatClampNeg 31) (1 : Int32).toNatClampNeg 28) (2 : Int32).toNatClampNeg 31) (3 : Int32).toNatClampNeg 30) (4 : Int32).toNatClampNeg 31) (5 : Int32).toNatClampNeg 30) (6 : Int32).toNatClampNeg 31) (7 : Int32).toNatClampNeg 31) (8 : Int32).toNatClampNeg 30) (9 : Int32).toNatClampNeg 31) (10 : Int32).toNatClampNeg 30) (11 : Int32).toNatClampNeg 31))), (q_29, .inl (cA_30, 201, .inr (.inl (fun _ => 0))))] H := hP
  have hD : va_D A [(h0, .inr (8, [.int 0, .ref q_1, .ref q_3, .ref q_5, .ref q_7, .ref q_9, .int 0, .ref q_11, .int 0, .int 0, .int 0, .int 0, .int 0, .int 0, .int (-1), .ref q_13, .ref q_15, .int 0, .int 0, .int 0, .ref q_17, .ref q_19, .long 0, .ref q_21, .ref q_23, .ref q_25, .ref q_27, .ref q_29, .null, .null, .null, .null, .null])), (q_1, .inl (cA_2, 1875, .inl (fun _ => 0))), (q_3, .inl (cA_4, 5625, .inl (fun _ => 0))), (q_5, .inl (cA_6, 3, .inl (fun _ => 0))), (q_7, .inl (cA_8, 20000, .inl (fun _ => 0))), (q_9, .inl (cA_10, 1200, .inl (fun _ => 0))), (q_11, .inl (cA_12, 5, .inl (fun _ => 0))), (q_13, .inl (cA_14, 1875, .inl (fun _ => 0))), (q_15, .inl (cA_16, 78, .inl (fun _ => 0))), (q_17, .inl (cA_18, 12, .inl (fun _ => 0))), (q_19, .inl (cA_20, 26, .inl (fun _ => 0))), (q_21, .inl (cA_22, 16, .inl (fun _ => 0))), (q_23, .inl (cA_24, 20000, .inl (fun _ => 0))), (q_25, .inl (cA_26, 20000, .inl (fun _ => 0))), (q_27, .inl (cA_28, 12, .inl (upd (upd (upd (upd (upd (upd (upd (upd (upd (upd (upd (upd (fun _ => 0) (0 : Int32).toNatClampNeg 31) (1 : Int32).toNatClampNeg 28) (2 : Int32).toNatClampNeg 31) (3 : Int32).toNatClampNeg 30) (4 : Int32).toNatClampNeg 31) (5 : Int32).toNatClampNeg 30) (6 : Int32).toNatClampNeg 31) (7 : Int32).toNatClampNeg 31) (8 : Int32).toNatClampNeg 30) (9 : Int32).toNatClampNeg 31) (10 : Int32).toNatClampNeg 30) (11 : Int32).toNatClampNeg 31))), (q_29, .inl (cA_30, 201, .inr (.inl (fun _ => 0))))] := hD
  refine lv_aload_n hx hb dX10_init_201 rfl (lv_at hl 0 rfl) ?_
  refine lv_sipush (v := 201) hx hb dX10_init_202 (by decide) ?_
  refine va_newa (atype := .long) (ty := .long) (a0 := (201, .inr (.inl (fun _ => 0)))) (N' := 201) hx hb (hts (.arrayClass .long) (List.mem_of_getElem? (i := 22) rfl)) rfl hK hP hD hS hA (fun cA => na_long cA 201) (by decide) (by decide) (by decide) (lel 16 20 rfl) (lel 71129 71437 rfl) dX10_init_205 (fun q_31 cA_32 H hK hP hD hS => ?_)
  have hP : va_P (dC, dI) vwCl [(h0, .inr (8, [.int 0, .ref q_1, .ref q_3, .ref q_5, .ref q_7, .ref q_9, .int 0, .ref q_11, .int 0, .int 0, .int 0, .int 0, .int 0, .int 0, .int (-1), .ref q_13, .ref q_15, .int 0, .int 0, .int 0, .ref q_17, .ref q_19, .long 0, .ref q_21, .ref q_23, .ref q_25, .ref q_27, .ref q_29, .null, .null, .null, .null, .null])), (q_1, .inl (cA_2, 1875, .inl (fun _ => 0))), (q_3, .inl (cA_4, 5625, .inl (fun _ => 0))), (q_5, .inl (cA_6, 3, .inl (fun _ => 0))), (q_7, .inl (cA_8, 20000, .inl (fun _ => 0))), (q_9, .inl (cA_10, 1200, .inl (fun _ => 0))), (q_11, .inl (cA_12, 5, .inl (fun _ => 0))), (q_13, .inl (cA_14, 1875, .inl (fun _ => 0))), (q_15, .inl (cA_16, 78, .inl (fun _ => 0))), (q_17, .inl (cA_18, 12, .inl (fun _ => 0))), (q_19, .inl (cA_20, 26, .inl (fun _ => 0))), (q_21, .inl (cA_22, 16, .inl (fun _ => 0))), (q_23, .inl (cA_24, 20000, .inl (fun _ => 0))), (q_25, .inl (cA_26, 20000, .inl (fun _ => 0))), (q_27, .inl (cA_28, 12, .inl (upd (upd (upd (upd (upd (upd (upd (upd (upd (upd (upd (upd (fun _ => 0) (0 : Int32).toNatClampNeg 31) (1 : Int32).toNatClampNeg 28) (2 : Int32).toNatClampNeg 31) (3 : Int32).toNatClampNeg 30) (4 : Int32).toNatClampNeg 31) (5 : Int32).toNatClampNeg 30) (6 : Int32).toNatClampNeg 31) (7 : Int32).toNatClampNeg 31) (8 : Int32).toNatClampNeg 30) (9 : Int32).toNatClampNeg 31) (10 : Int32).toNatClampNeg 30) (11 : Int32).toNatClampNeg 31))), (q_29, .inl (cA_30, 201, .inr (.inl (fun _ => 0)))), (q_31, .inl (cA_32, 201, .inr (.inl (fun _ => 0))))] H := hP
  have hD : va_D A [(h0, .inr (8, [.int 0, .ref q_1, .ref q_3, .ref q_5, .ref q_7, .ref q_9, .int 0, .ref q_11, .int 0, .int 0, .int 0, .int 0, .int 0, .int 0, .int (-1), .ref q_13, .ref q_15, .int 0, .int 0, .int 0, .ref q_17, .ref q_19, .long 0, .ref q_21, .ref q_23, .ref q_25, .ref q_27, .ref q_29, .null, .null, .null, .null, .null])), (q_1, .inl (cA_2, 1875, .inl (fun _ => 0))), (q_3, .inl (cA_4, 5625, .inl (fun _ => 0))), (q_5, .inl (cA_6, 3, .inl (fun _ => 0))), (q_7, .inl (cA_8, 20000, .inl (fun _ => 0))), (q_9, .inl (cA_10, 1200, .inl (fun _ => 0))), (q_11, .inl (cA_12, 5, .inl (fun _ => 0))), (q_13, .inl (cA_14, 1875, .inl (fun _ => 0))), (q_15, .inl (cA_16, 78, .inl (fun _ => 0))), (q_17, .inl (cA_18, 12, .inl (fun _ => 0))), (q_19, .inl (cA_20, 26, .inl (fun _ => 0))), (q_21, .inl (cA_22, 16, .inl (fun _ => 0))), (q_23, .inl (cA_24, 20000, .inl (fun _ => 0))), (q_25, .inl (cA_26, 20000, .inl (fun _ => 0))), (q_27, .inl (cA_28, 12, .inl (upd (upd (upd (upd (upd (upd (upd (upd (upd (upd (upd (upd (fun _ => 0) (0 : Int32).toNatClampNeg 31) (1 : Int32).toNatClampNeg 28) (2 : Int32).toNatClampNeg 31) (3 : Int32).toNatClampNeg 30) (4 : Int32).toNatClampNeg 31) (5 : Int32).toNatClampNeg 30) (6 : Int32).toNatClampNeg 31) (7 : Int32).toNatClampNeg 31) (8 : Int32).toNatClampNeg 30) (9 : Int32).toNatClampNeg 31) (10 : Int32).toNatClampNeg 30) (11 : Int32).toNatClampNeg 31))), (q_29, .inl (cA_30, 201, .inr (.inl (fun _ => 0)))), (q_31, .inl (cA_32, 201, .inr (.inl (fun _ => 0))))] := hD
  have hK : va_K (dC, dI) vwCl [(cA_2, .int), (cA_4, .int), (cA_6, .boolean), (cA_8, .int), (cA_10, .byte), (cA_12, .int), (cA_14, .int), (cA_16, .int), (cA_18, .int), (cA_20, .boolean), (cA_22, .int), (cA_24, .int), (cA_26, .int), (cA_28, .int), (cA_30, .long), (cA_32, .long)] s := hK
  refine W.widen (k := 16) (n := 71129) (lel _ _ rfl) (lel _ _ rfl) ?_
  refine va_putF (D := (dC, dI)) (ci := 8) (v := .ref q_31) (ty := .array .long) (C := RX10) (T := TX10) (N := 33) hx hb hts iX10_init_X10 tyX10 tyX10_ok nmX10 hown hK hP hD hS 0 rfl rfl 28 (by decide) (hts (.fieldLink RX10 62 "LuckyTicketModel" "waysOn" "[J") (List.mem_of_getElem? (i := 24) rfl)) (fun _ h9 => h9) rfl hin rfl (by decide +kernel) rfl rfl (Nat.le_of_ble_eq_true rfl) dX10_init_207 (fun H locs hP hD hS => ?_)
  have hP : va_P (dC, dI) vwCl [(h0, .inr (8, [.int 0, .ref q_1, .ref q_3, .ref q_5, .ref q_7, .ref q_9, .int 0, .ref q_11, .int 0, .int 0, .int 0, .int 0, .int 0, .int 0, .int (-1), .ref q_13, .ref q_15, .int 0, .int 0, .int 0, .ref q_17, .ref q_19, .long 0, .ref q_21, .ref q_23, .ref q_25, .ref q_27, .ref q_29, .ref q_31, .null, .null, .null, .null])), (q_1, .inl (cA_2, 1875, .inl (fun _ => 0))), (q_3, .inl (cA_4, 5625, .inl (fun _ => 0))), (q_5, .inl (cA_6, 3, .inl (fun _ => 0))), (q_7, .inl (cA_8, 20000, .inl (fun _ => 0))), (q_9, .inl (cA_10, 1200, .inl (fun _ => 0))), (q_11, .inl (cA_12, 5, .inl (fun _ => 0))), (q_13, .inl (cA_14, 1875, .inl (fun _ => 0))), (q_15, .inl (cA_16, 78, .inl (fun _ => 0))), (q_17, .inl (cA_18, 12, .inl (fun _ => 0))), (q_19, .inl (cA_20, 26, .inl (fun _ => 0))), (q_21, .inl (cA_22, 16, .inl (fun _ => 0))), (q_23, .inl (cA_24, 20000, .inl (fun _ => 0))), (q_25, .inl (cA_26, 20000, .inl (fun _ => 0))), (q_27, .inl (cA_28, 12, .inl (upd (upd (upd (upd (upd (upd (upd (upd (upd (upd (upd (upd (fun _ => 0) (0 : Int32).toNatClampNeg 31) (1 : Int32).toNatClampNeg 28) (2 : Int32).toNatClampNeg 31) (3 : Int32).toNatClampNeg 30) (4 : Int32).toNatClampNeg 31) (5 : Int32).toNatClampNeg 30) (6 : Int32).toNatClampNeg 31) (7 : Int32).toNatClampNeg 31) (8 : Int32).toNatClampNeg 30) (9 : Int32).toNatClampNeg 31) (10 : Int32).toNatClampNeg 30) (11 : Int32).toNatClampNeg 31))), (q_29, .inl (cA_30, 201, .inr (.inl (fun _ => 0)))), (q_31, .inl (cA_32, 201, .inr (.inl (fun _ => 0))))] H := hP
  have hD : va_D A [(h0, .inr (8, [.int 0, .ref q_1, .ref q_3, .ref q_5, .ref q_7, .ref q_9, .int 0, .ref q_11, .int 0, .int 0, .int 0, .int 0, .int 0, .int 0, .int (-1), .ref q_13, .ref q_15, .int 0, .int 0, .int 0, .ref q_17, .ref q_19, .long 0, .ref q_21, .ref q_23, .ref q_25, .ref q_27, .ref q_29, .ref q_31, .null, .null, .null, .null])), (q_1, .inl (cA_2, 1875, .inl (fun _ => 0))), (q_3, .inl (cA_4, 5625, .inl (fun _ => 0))), (q_5, .inl (cA_6, 3, .inl (fun _ => 0))), (q_7, .inl (cA_8, 20000, .inl (fun _ => 0))), (q_9, .inl (cA_10, 1200, .inl (fun _ => 0))), (q_11, .inl (cA_12, 5, .inl (fun _ => 0))), (q_13, .inl (cA_14, 1875, .inl (fun _ => 0))), (q_15, .inl (cA_16, 78, .inl (fun _ => 0))), (q_17, .inl (cA_18, 12, .inl (fun _ => 0))), (q_19, .inl (cA_20, 26, .inl (fun _ => 0))), (q_21, .inl (cA_22, 16, .inl (fun _ => 0))), (q_23, .inl (cA_24, 20000, .inl (fun _ => 0))), (q_25, .inl (cA_26, 20000, .inl (fun _ => 0))), (q_27, .inl (cA_28, 12, .inl (upd (upd (upd (upd (upd (upd (upd (upd (upd (upd (upd (upd (fun _ => 0) (0 : Int32).toNatClampNeg 31) (1 : Int32).toNatClampNeg 28) (2 : Int32).toNatClampNeg 31) (3 : Int32).toNatClampNeg 30) (4 : Int32).toNatClampNeg 31) (5 : Int32).toNatClampNeg 30) (6 : Int32).toNatClampNeg 31) (7 : Int32).toNatClampNeg 31) (8 : Int32).toNatClampNeg 30) (9 : Int32).toNatClampNeg 31) (10 : Int32).toNatClampNeg 30) (11 : Int32).toNatClampNeg 31))), (q_29, .inl (cA_30, 201, .inr (.inl (fun _ => 0)))), (q_31, .inl (cA_32, 201, .inr (.inl (fun _ => 0))))] := hD
  refine lv_aload_n hx hb dX10_init_210 rfl (lv_at hl 0 rfl) ?_
  refine lv_iconst (v := 4) hx hb dX10_init_211 (by decide) ?_
  refine va_newa (atype := .int) (ty := .int) (a0 := (4, .inl (fun _ => 0))) (N' := 4) hx hb (hts (.arrayClass .int) (List.mem_of_getElem? (i := 4) rfl)) rfl hK hP hD hS hA (fun cA => na_int cA 4) (by decide) (by decide) (by decide) (lel 17 20 rfl) (lel 71133 71437 rfl) dX10_init_212 (fun q_33 cA_34 H hK hP hD hS => ?_)
  have hP : va_P (dC, dI) vwCl [(h0, .inr (8, [.int 0, .ref q_1, .ref q_3, .ref q_5, .ref q_7, .ref q_9, .int 0, .ref q_11, .int 0, .int 0, .int 0, .int 0, .int 0, .int 0, .int (-1), .ref q_13, .ref q_15, .int 0, .int 0, .int 0, .ref q_17, .ref q_19, .long 0, .ref q_21, .ref q_23, .ref q_25, .ref q_27, .ref q_29, .ref q_31, .null, .null, .null, .null])), (q_1, .inl (cA_2, 1875, .inl (fun _ => 0))), (q_3, .inl (cA_4, 5625, .inl (fun _ => 0))), (q_5, .inl (cA_6, 3, .inl (fun _ => 0))), (q_7, .inl (cA_8, 20000, .inl (fun _ => 0))), (q_9, .inl (cA_10, 1200, .inl (fun _ => 0))), (q_11, .inl (cA_12, 5, .inl (fun _ => 0))), (q_13, .inl (cA_14, 1875, .inl (fun _ => 0))), (q_15, .inl (cA_16, 78, .inl (fun _ => 0))), (q_17, .inl (cA_18, 12, .inl (fun _ => 0))), (q_19, .inl (cA_20, 26, .inl (fun _ => 0))), (q_21, .inl (cA_22, 16, .inl (fun _ => 0))), (q_23, .inl (cA_24, 20000, .inl (fun _ => 0))), (q_25, .inl (cA_26, 20000, .inl (fun _ => 0))), (q_27, .inl (cA_28, 12, .inl (upd (upd (upd (upd (upd (upd (upd (upd (upd (upd (upd (upd (fun _ => 0) (0 : Int32).toNatClampNeg 31) (1 : Int32).toNatClampNeg 28) (2 : Int32).toNatClampNeg 31) (3 : Int32).toNatClampNeg 30) (4 : Int32).toNatClampNeg 31) (5 : Int32).toNatClampNeg 30) (6 : Int32).toNatClampNeg 31) (7 : Int32).toNatClampNeg 31) (8 : Int32).toNatClampNeg 30) (9 : Int32).toNatClampNeg 31) (10 : Int32).toNatClampNeg 30) (11 : Int32).toNatClampNeg 31))), (q_29, .inl (cA_30, 201, .inr (.inl (fun _ => 0)))), (q_31, .inl (cA_32, 201, .inr (.inl (fun _ => 0)))), (q_33, .inl (cA_34, 4, .inl (fun _ => 0)))] H := hP
  have hD : va_D A [(h0, .inr (8, [.int 0, .ref q_1, .ref q_3, .ref q_5, .ref q_7, .ref q_9, .int 0, .ref q_11, .int 0, .int 0, .int 0, .int 0, .int 0, .int 0, .int (-1), .ref q_13, .ref q_15, .int 0, .int 0, .int 0, .ref q_17, .ref q_19, .long 0, .ref q_21, .ref q_23, .ref q_25, .ref q_27, .ref q_29, .ref q_31, .null, .null, .null, .null])), (q_1, .inl (cA_2, 1875, .inl (fun _ => 0))), (q_3, .inl (cA_4, 5625, .inl (fun _ => 0))), (q_5, .inl (cA_6, 3, .inl (fun _ => 0))), (q_7, .inl (cA_8, 20000, .inl (fun _ => 0))), (q_9, .inl (cA_10, 1200, .inl (fun _ => 0))), (q_11, .inl (cA_12, 5, .inl (fun _ => 0))), (q_13, .inl (cA_14, 1875, .inl (fun _ => 0))), (q_15, .inl (cA_16, 78, .inl (fun _ => 0))), (q_17, .inl (cA_18, 12, .inl (fun _ => 0))), (q_19, .inl (cA_20, 26, .inl (fun _ => 0))), (q_21, .inl (cA_22, 16, .inl (fun _ => 0))), (q_23, .inl (cA_24, 20000, .inl (fun _ => 0))), (q_25, .inl (cA_26, 20000, .inl (fun _ => 0))), (q_27, .inl (cA_28, 12, .inl (upd (upd (upd (upd (upd (upd (upd (upd (upd (upd (upd (upd (fun _ => 0) (0 : Int32).toNatClampNeg 31) (1 : Int32).toNatClampNeg 28) (2 : Int32).toNatClampNeg 31) (3 : Int32).toNatClampNeg 30) (4 : Int32).toNatClampNeg 31) (5 : Int32).toNatClampNeg 30) (6 : Int32).toNatClampNeg 31) (7 : Int32).toNatClampNeg 31) (8 : Int32).toNatClampNeg 30) (9 : Int32).toNatClampNeg 31) (10 : Int32).toNatClampNeg 30) (11 : Int32).toNatClampNeg 31))), (q_29, .inl (cA_30, 201, .inr (.inl (fun _ => 0)))), (q_31, .inl (cA_32, 201, .inr (.inl (fun _ => 0)))), (q_33, .inl (cA_34, 4, .inl (fun _ => 0)))] := hD
  have hK : va_K (dC, dI) vwCl [(cA_2, .int), (cA_4, .int), (cA_6, .boolean), (cA_8, .int), (cA_10, .byte), (cA_12, .int), (cA_14, .int), (cA_16, .int), (cA_18, .int), (cA_20, .boolean), (cA_22, .int), (cA_24, .int), (cA_26, .int), (cA_28, .int), (cA_30, .long), (cA_32, .long), (cA_34, .int)] s := hK
  refine W.widen (k := 17) (n := 71133) (lel _ _ rfl) (lel _ _ rfl) ?_
  refine lv_dup hx hb dX10_init_214 rfl ?_
  refine lv_iconst (v := 0) hx hb dX10_init_215 (by decide) ?_
  refine lv_iconst (v := (-1)) hx hb dX10_init_216 (by decide) ?_
  refine va_iast hx hb hK hP hD hS 17 16 rfl rfl (vp_in_lit (by decide)) dX10_init_217 (fun H locs hP hD hS => ?_)
  have hP : va_P (dC, dI) vwCl [(h0, .inr (8, [.int 0, .ref q_1, .ref q_3, .ref q_5, .ref q_7, .ref q_9, .int 0, .ref q_11, .int 0, .int 0, .int 0, .int 0, .int 0, .int 0, .int (-1), .ref q_13, .ref q_15, .int 0, .int 0, .int 0, .ref q_17, .ref q_19, .long 0, .ref q_21, .ref q_23, .ref q_25, .ref q_27, .ref q_29, .ref q_31, .null, .null, .null, .null])), (q_1, .inl (cA_2, 1875, .inl (fun _ => 0))), (q_3, .inl (cA_4, 5625, .inl (fun _ => 0))), (q_5, .inl (cA_6, 3, .inl (fun _ => 0))), (q_7, .inl (cA_8, 20000, .inl (fun _ => 0))), (q_9, .inl (cA_10, 1200, .inl (fun _ => 0))), (q_11, .inl (cA_12, 5, .inl (fun _ => 0))), (q_13, .inl (cA_14, 1875, .inl (fun _ => 0))), (q_15, .inl (cA_16, 78, .inl (fun _ => 0))), (q_17, .inl (cA_18, 12, .inl (fun _ => 0))), (q_19, .inl (cA_20, 26, .inl (fun _ => 0))), (q_21, .inl (cA_22, 16, .inl (fun _ => 0))), (q_23, .inl (cA_24, 20000, .inl (fun _ => 0))), (q_25, .inl (cA_26, 20000, .inl (fun _ => 0))), (q_27, .inl (cA_28, 12, .inl (upd (upd (upd (upd (upd (upd (upd (upd (upd (upd (upd (upd (fun _ => 0) (0 : Int32).toNatClampNeg 31) (1 : Int32).toNatClampNeg 28) (2 : Int32).toNatClampNeg 31) (3 : Int32).toNatClampNeg 30) (4 : Int32).toNatClampNeg 31) (5 : Int32).toNatClampNeg 30) (6 : Int32).toNatClampNeg 31) (7 : Int32).toNatClampNeg 31) (8 : Int32).toNatClampNeg 30) (9 : Int32).toNatClampNeg 31) (10 : Int32).toNatClampNeg 30) (11 : Int32).toNatClampNeg 31))), (q_29, .inl (cA_30, 201, .inr (.inl (fun _ => 0)))), (q_31, .inl (cA_32, 201, .inr (.inl (fun _ => 0)))), (q_33, .inl (cA_34, 4, .inl (upd (fun _ => 0) (0 : Int32).toNatClampNeg (-1))))] H := hP
  have hD : va_D A [(h0, .inr (8, [.int 0, .ref q_1, .ref q_3, .ref q_5, .ref q_7, .ref q_9, .int 0, .ref q_11, .int 0, .int 0, .int 0, .int 0, .int 0, .int 0, .int (-1), .ref q_13, .ref q_15, .int 0, .int 0, .int 0, .ref q_17, .ref q_19, .long 0, .ref q_21, .ref q_23, .ref q_25, .ref q_27, .ref q_29, .ref q_31, .null, .null, .null, .null])), (q_1, .inl (cA_2, 1875, .inl (fun _ => 0))), (q_3, .inl (cA_4, 5625, .inl (fun _ => 0))), (q_5, .inl (cA_6, 3, .inl (fun _ => 0))), (q_7, .inl (cA_8, 20000, .inl (fun _ => 0))), (q_9, .inl (cA_10, 1200, .inl (fun _ => 0))), (q_11, .inl (cA_12, 5, .inl (fun _ => 0))), (q_13, .inl (cA_14, 1875, .inl (fun _ => 0))), (q_15, .inl (cA_16, 78, .inl (fun _ => 0))), (q_17, .inl (cA_18, 12, .inl (fun _ => 0))), (q_19, .inl (cA_20, 26, .inl (fun _ => 0))), (q_21, .inl (cA_22, 16, .inl (fun _ => 0))), (q_23, .inl (cA_24, 20000, .inl (fun _ => 0))), (q_25, .inl (cA_26, 20000, .inl (fun _ => 0))), (q_27, .inl (cA_28, 12, .inl (upd (upd (upd (upd (upd (upd (upd (upd (upd (upd (upd (upd (fun _ => 0) (0 : Int32).toNatClampNeg 31) (1 : Int32).toNatClampNeg 28) (2 : Int32).toNatClampNeg 31) (3 : Int32).toNatClampNeg 30) (4 : Int32).toNatClampNeg 31) (5 : Int32).toNatClampNeg 30) (6 : Int32).toNatClampNeg 31) (7 : Int32).toNatClampNeg 31) (8 : Int32).toNatClampNeg 30) (9 : Int32).toNatClampNeg 31) (10 : Int32).toNatClampNeg 30) (11 : Int32).toNatClampNeg 31))), (q_29, .inl (cA_30, 201, .inr (.inl (fun _ => 0)))), (q_31, .inl (cA_32, 201, .inr (.inl (fun _ => 0)))), (q_33, .inl (cA_34, 4, .inl (upd (fun _ => 0) (0 : Int32).toNatClampNeg (-1))))] := hD
  refine lv_dup hx hb dX10_init_218 rfl ?_
  refine lv_iconst (v := 1) hx hb dX10_init_219 (by decide) ?_
  refine lv_iconst (v := (-1)) hx hb dX10_init_220 (by decide) ?_
  refine va_iast hx hb hK hP hD hS 17 16 rfl rfl (vp_in_lit (by decide)) dX10_init_221 (fun H locs hP hD hS => ?_)
  have hP : va_P (dC, dI) vwCl [(h0, .inr (8, [.int 0, .ref q_1, .ref q_3, .ref q_5, .ref q_7, .ref q_9, .int 0, .ref q_11, .int 0, .int 0, .int 0, .int 0, .int 0, .int 0, .int (-1), .ref q_13, .ref q_15, .int 0, .int 0, .int 0, .ref q_17, .ref q_19, .long 0, .ref q_21, .ref q_23, .ref q_25, .ref q_27, .ref q_29, .ref q_31, .null, .null, .null, .null])), (q_1, .inl (cA_2, 1875, .inl (fun _ => 0))), (q_3, .inl (cA_4, 5625, .inl (fun _ => 0))), (q_5, .inl (cA_6, 3, .inl (fun _ => 0))), (q_7, .inl (cA_8, 20000, .inl (fun _ => 0))), (q_9, .inl (cA_10, 1200, .inl (fun _ => 0))), (q_11, .inl (cA_12, 5, .inl (fun _ => 0))), (q_13, .inl (cA_14, 1875, .inl (fun _ => 0))), (q_15, .inl (cA_16, 78, .inl (fun _ => 0))), (q_17, .inl (cA_18, 12, .inl (fun _ => 0))), (q_19, .inl (cA_20, 26, .inl (fun _ => 0))), (q_21, .inl (cA_22, 16, .inl (fun _ => 0))), (q_23, .inl (cA_24, 20000, .inl (fun _ => 0))), (q_25, .inl (cA_26, 20000, .inl (fun _ => 0))), (q_27, .inl (cA_28, 12, .inl (upd (upd (upd (upd (upd (upd (upd (upd (upd (upd (upd (upd (fun _ => 0) (0 : Int32).toNatClampNeg 31) (1 : Int32).toNatClampNeg 28) (2 : Int32).toNatClampNeg 31) (3 : Int32).toNatClampNeg 30) (4 : Int32).toNatClampNeg 31) (5 : Int32).toNatClampNeg 30) (6 : Int32).toNatClampNeg 31) (7 : Int32).toNatClampNeg 31) (8 : Int32).toNatClampNeg 30) (9 : Int32).toNatClampNeg 31) (10 : Int32).toNatClampNeg 30) (11 : Int32).toNatClampNeg 31))), (q_29, .inl (cA_30, 201, .inr (.inl (fun _ => 0)))), (q_31, .inl (cA_32, 201, .inr (.inl (fun _ => 0)))), (q_33, .inl (cA_34, 4, .inl (upd (upd (fun _ => 0) (0 : Int32).toNatClampNeg (-1)) (1 : Int32).toNatClampNeg (-1))))] H := hP
  have hD : va_D A [(h0, .inr (8, [.int 0, .ref q_1, .ref q_3, .ref q_5, .ref q_7, .ref q_9, .int 0, .ref q_11, .int 0, .int 0, .int 0, .int 0, .int 0, .int 0, .int (-1), .ref q_13, .ref q_15, .int 0, .int 0, .int 0, .ref q_17, .ref q_19, .long 0, .ref q_21, .ref q_23, .ref q_25, .ref q_27, .ref q_29, .ref q_31, .null, .null, .null, .null])), (q_1, .inl (cA_2, 1875, .inl (fun _ => 0))), (q_3, .inl (cA_4, 5625, .inl (fun _ => 0))), (q_5, .inl (cA_6, 3, .inl (fun _ => 0))), (q_7, .inl (cA_8, 20000, .inl (fun _ => 0))), (q_9, .inl (cA_10, 1200, .inl (fun _ => 0))), (q_11, .inl (cA_12, 5, .inl (fun _ => 0))), (q_13, .inl (cA_14, 1875, .inl (fun _ => 0))), (q_15, .inl (cA_16, 78, .inl (fun _ => 0))), (q_17, .inl (cA_18, 12, .inl (fun _ => 0))), (q_19, .inl (cA_20, 26, .inl (fun _ => 0))), (q_21, .inl (cA_22, 16, .inl (fun _ => 0))), (q_23, .inl (cA_24, 20000, .inl (fun _ => 0))), (q_25, .inl (cA_26, 20000, .inl (fun _ => 0))), (q_27, .inl (cA_28, 12, .inl (upd (upd (upd (upd (upd (upd (upd (upd (upd (upd (upd (upd (fun _ => 0) (0 : Int32).toNatClampNeg 31) (1 : Int32).toNatClampNeg 28) (2 : Int32).toNatClampNeg 31) (3 : Int32).toNatClampNeg 30) (4 : Int32).toNatClampNeg 31) (5 : Int32).toNatClampNeg 30) (6 : Int32).toNatClampNeg 31) (7 : Int32).toNatClampNeg 31) (8 : Int32).toNatClampNeg 30) (9 : Int32).toNatClampNeg 31) (10 : Int32).toNatClampNeg 30) (11 : Int32).toNatClampNeg 31))), (q_29, .inl (cA_30, 201, .inr (.inl (fun _ => 0)))), (q_31, .inl (cA_32, 201, .inr (.inl (fun _ => 0)))), (q_33, .inl (cA_34, 4, .inl (upd (upd (fun _ => 0) (0 : Int32).toNatClampNeg (-1)) (1 : Int32).toNatClampNeg (-1))))] := hD
  refine lv_dup hx hb dX10_init_222 rfl ?_
  refine lv_iconst (v := 2) hx hb dX10_init_223 (by decide) ?_
  refine lv_iconst (v := (-1)) hx hb dX10_init_224 (by decide) ?_
  refine va_iast hx hb hK hP hD hS 17 16 rfl rfl (vp_in_lit (by decide)) dX10_init_225 (fun H locs hP hD hS => ?_)
  have hP : va_P (dC, dI) vwCl [(h0, .inr (8, [.int 0, .ref q_1, .ref q_3, .ref q_5, .ref q_7, .ref q_9, .int 0, .ref q_11, .int 0, .int 0, .int 0, .int 0, .int 0, .int 0, .int (-1), .ref q_13, .ref q_15, .int 0, .int 0, .int 0, .ref q_17, .ref q_19, .long 0, .ref q_21, .ref q_23, .ref q_25, .ref q_27, .ref q_29, .ref q_31, .null, .null, .null, .null])), (q_1, .inl (cA_2, 1875, .inl (fun _ => 0))), (q_3, .inl (cA_4, 5625, .inl (fun _ => 0))), (q_5, .inl (cA_6, 3, .inl (fun _ => 0))), (q_7, .inl (cA_8, 20000, .inl (fun _ => 0))), (q_9, .inl (cA_10, 1200, .inl (fun _ => 0))), (q_11, .inl (cA_12, 5, .inl (fun _ => 0))), (q_13, .inl (cA_14, 1875, .inl (fun _ => 0))), (q_15, .inl (cA_16, 78, .inl (fun _ => 0))), (q_17, .inl (cA_18, 12, .inl (fun _ => 0))), (q_19, .inl (cA_20, 26, .inl (fun _ => 0))), (q_21, .inl (cA_22, 16, .inl (fun _ => 0))), (q_23, .inl (cA_24, 20000, .inl (fun _ => 0))), (q_25, .inl (cA_26, 20000, .inl (fun _ => 0))), (q_27, .inl (cA_28, 12, .inl (upd (upd (upd (upd (upd (upd (upd (upd (upd (upd (upd (upd (fun _ => 0) (0 : Int32).toNatClampNeg 31) (1 : Int32).toNatClampNeg 28) (2 : Int32).toNatClampNeg 31) (3 : Int32).toNatClampNeg 30) (4 : Int32).toNatClampNeg 31) (5 : Int32).toNatClampNeg 30) (6 : Int32).toNatClampNeg 31) (7 : Int32).toNatClampNeg 31) (8 : Int32).toNatClampNeg 30) (9 : Int32).toNatClampNeg 31) (10 : Int32).toNatClampNeg 30) (11 : Int32).toNatClampNeg 31))), (q_29, .inl (cA_30, 201, .inr (.inl (fun _ => 0)))), (q_31, .inl (cA_32, 201, .inr (.inl (fun _ => 0)))), (q_33, .inl (cA_34, 4, .inl (upd (upd (upd (fun _ => 0) (0 : Int32).toNatClampNeg (-1)) (1 : Int32).toNatClampNeg (-1)) (2 : Int32).toNatClampNeg (-1))))] H := hP
  have hD : va_D A [(h0, .inr (8, [.int 0, .ref q_1, .ref q_3, .ref q_5, .ref q_7, .ref q_9, .int 0, .ref q_11, .int 0, .int 0, .int 0, .int 0, .int 0, .int 0, .int (-1), .ref q_13, .ref q_15, .int 0, .int 0, .int 0, .ref q_17, .ref q_19, .long 0, .ref q_21, .ref q_23, .ref q_25, .ref q_27, .ref q_29, .ref q_31, .null, .null, .null, .null])), (q_1, .inl (cA_2, 1875, .inl (fun _ => 0))), (q_3, .inl (cA_4, 5625, .inl (fun _ => 0))), (q_5, .inl (cA_6, 3, .inl (fun _ => 0))), (q_7, .inl (cA_8, 20000, .inl (fun _ => 0))), (q_9, .inl (cA_10, 1200, .inl (fun _ => 0))), (q_11, .inl (cA_12, 5, .inl (fun _ => 0))), (q_13, .inl (cA_14, 1875, .inl (fun _ => 0))), (q_15, .inl (cA_16, 78, .inl (fun _ => 0))), (q_17, .inl (cA_18, 12, .inl (fun _ => 0))), (q_19, .inl (cA_20, 26, .inl (fun _ => 0))), (q_21, .inl (cA_22, 16, .inl (fun _ => 0))), (q_23, .inl (cA_24, 20000, .inl (fun _ => 0))), (q_25, .inl (cA_26, 20000, .inl (fun _ => 0))), (q_27, .inl (cA_28, 12, .inl (upd (upd (upd (upd (upd (upd (upd (upd (upd (upd (upd (upd (fun _ => 0) (0 : Int32).toNatClampNeg 31) (1 : Int32).toNatClampNeg 28) (2 : Int32).toNatClampNeg 31) (3 : Int32).toNatClampNeg 30) (4 : Int32).toNatClampNeg 31) (5 : Int32).toNatClampNeg 30) (6 : Int32).toNatClampNeg 31) (7 : Int32).toNatClampNeg 31) (8 : Int32).toNatClampNeg 30) (9 : Int32).toNatClampNeg 31) (10 : Int32).toNatClampNeg 30) (11 : Int32).toNatClampNeg 31))), (q_29, .inl (cA_30, 201, .inr (.inl (fun _ => 0)))), (q_31, .inl (cA_32, 201, .inr (.inl (fun _ => 0)))), (q_33, .inl (cA_34, 4, .inl (upd (upd (upd (fun _ => 0) (0 : Int32).toNatClampNeg (-1)) (1 : Int32).toNatClampNeg (-1)) (2 : Int32).toNatClampNeg (-1))))] := hD
  refine lv_dup hx hb dX10_init_226 rfl ?_
  refine lv_iconst (v := 3) hx hb dX10_init_227 (by decide) ?_
  refine lv_iconst (v := (-1)) hx hb dX10_init_228 (by decide) ?_
  refine va_iast hx hb hK hP hD hS 17 16 rfl rfl (vp_in_lit (by decide)) dX10_init_229 (fun H locs hP hD hS => ?_)
  have hP : va_P (dC, dI) vwCl [(h0, .inr (8, [.int 0, .ref q_1, .ref q_3, .ref q_5, .ref q_7, .ref q_9, .int 0, .ref q_11, .int 0, .int 0, .int 0, .int 0, .int 0, .int 0, .int (-1), .ref q_13, .ref q_15, .int 0, .int 0, .int 0, .ref q_17, .ref q_19, .long 0, .ref q_21, .ref q_23, .ref q_25, .ref q_27, .ref q_29, .ref q_31, .null, .null, .null, .null])), (q_1, .inl (cA_2, 1875, .inl (fun _ => 0))), (q_3, .inl (cA_4, 5625, .inl (fun _ => 0))), (q_5, .inl (cA_6, 3, .inl (fun _ => 0))), (q_7, .inl (cA_8, 20000, .inl (fun _ => 0))), (q_9, .inl (cA_10, 1200, .inl (fun _ => 0))), (q_11, .inl (cA_12, 5, .inl (fun _ => 0))), (q_13, .inl (cA_14, 1875, .inl (fun _ => 0))), (q_15, .inl (cA_16, 78, .inl (fun _ => 0))), (q_17, .inl (cA_18, 12, .inl (fun _ => 0))), (q_19, .inl (cA_20, 26, .inl (fun _ => 0))), (q_21, .inl (cA_22, 16, .inl (fun _ => 0))), (q_23, .inl (cA_24, 20000, .inl (fun _ => 0))), (q_25, .inl (cA_26, 20000, .inl (fun _ => 0))), (q_27, .inl (cA_28, 12, .inl (upd (upd (upd (upd (upd (upd (upd (upd (upd (upd (upd (upd (fun _ => 0) (0 : Int32).toNatClampNeg 31) (1 : Int32).toNatClampNeg 28) (2 : Int32).toNatClampNeg 31) (3 : Int32).toNatClampNeg 30) (4 : Int32).toNatClampNeg 31) (5 : Int32).toNatClampNeg 30) (6 : Int32).toNatClampNeg 31) (7 : Int32).toNatClampNeg 31) (8 : Int32).toNatClampNeg 30) (9 : Int32).toNatClampNeg 31) (10 : Int32).toNatClampNeg 30) (11 : Int32).toNatClampNeg 31))), (q_29, .inl (cA_30, 201, .inr (.inl (fun _ => 0)))), (q_31, .inl (cA_32, 201, .inr (.inl (fun _ => 0)))), (q_33, .inl (cA_34, 4, .inl (upd (upd (upd (upd (fun _ => 0) (0 : Int32).toNatClampNeg (-1)) (1 : Int32).toNatClampNeg (-1)) (2 : Int32).toNatClampNeg (-1)) (3 : Int32).toNatClampNeg (-1))))] H := hP
  have hD : va_D A [(h0, .inr (8, [.int 0, .ref q_1, .ref q_3, .ref q_5, .ref q_7, .ref q_9, .int 0, .ref q_11, .int 0, .int 0, .int 0, .int 0, .int 0, .int 0, .int (-1), .ref q_13, .ref q_15, .int 0, .int 0, .int 0, .ref q_17, .ref q_19, .long 0, .ref q_21, .ref q_23, .ref q_25, .ref q_27, .ref q_29, .ref q_31, .null, .null, .null, .null])), (q_1, .inl (cA_2, 1875, .inl (fun _ => 0))), (q_3, .inl (cA_4, 5625, .inl (fun _ => 0))), (q_5, .inl (cA_6, 3, .inl (fun _ => 0))), (q_7, .inl (cA_8, 20000, .inl (fun _ => 0))), (q_9, .inl (cA_10, 1200, .inl (fun _ => 0))), (q_11, .inl (cA_12, 5, .inl (fun _ => 0))), (q_13, .inl (cA_14, 1875, .inl (fun _ => 0))), (q_15, .inl (cA_16, 78, .inl (fun _ => 0))), (q_17, .inl (cA_18, 12, .inl (fun _ => 0))), (q_19, .inl (cA_20, 26, .inl (fun _ => 0))), (q_21, .inl (cA_22, 16, .inl (fun _ => 0))), (q_23, .inl (cA_24, 20000, .inl (fun _ => 0))), (q_25, .inl (cA_26, 20000, .inl (fun _ => 0))), (q_27, .inl (cA_28, 12, .inl (upd (upd (upd (upd (upd (upd (upd (upd (upd (upd (upd (upd (fun _ => 0) (0 : Int32).toNatClampNeg 31) (1 : Int32).toNatClampNeg 28) (2 : Int32).toNatClampNeg 31) (3 : Int32).toNatClampNeg 30) (4 : Int32).toNatClampNeg 31) (5 : Int32).toNatClampNeg 30) (6 : Int32).toNatClampNeg 31) (7 : Int32).toNatClampNeg 31) (8 : Int32).toNatClampNeg 30) (9 : Int32).toNatClampNeg 31) (10 : Int32).toNatClampNeg 30) (11 : Int32).toNatClampNeg 31))), (q_29, .inl (cA_30, 201, .inr (.inl (fun _ => 0)))), (q_31, .inl (cA_32, 201, .inr (.inl (fun _ => 0)))), (q_33, .inl (cA_34, 4, .inl (upd (upd (upd (upd (fun _ => 0) (0 : Int32).toNatClampNeg (-1)) (1 : Int32).toNatClampNeg (-1)) (2 : Int32).toNatClampNeg (-1)) (3 : Int32).toNatClampNeg (-1))))] := hD
  refine va_putF (D := (dC, dI)) (ci := 8) (v := .ref q_33) (ty := .array .int) (C := RX10) (T := TX10) (N := 33) hx hb hts iX10_init_X10 tyX10 tyX10_ok nmX10 hown hK hP hD hS 0 rfl rfl 29 (by decide) (hts (.fieldLink RX10 65 "LuckyTicketModel" "many" "[I") (List.mem_of_getElem? (i := 25) rfl)) (fun _ h9 => h9) rfl hin rfl (by decide +kernel) rfl rfl (Nat.le_of_ble_eq_true rfl) dX10_init_230 (fun H locs hP hD hS => ?_)
  have hP : va_P (dC, dI) vwCl [(h0, .inr (8, [.int 0, .ref q_1, .ref q_3, .ref q_5, .ref q_7, .ref q_9, .int 0, .ref q_11, .int 0, .int 0, .int 0, .int 0, .int 0, .int 0, .int (-1), .ref q_13, .ref q_15, .int 0, .int 0, .int 0, .ref q_17, .ref q_19, .long 0, .ref q_21, .ref q_23, .ref q_25, .ref q_27, .ref q_29, .ref q_31, .ref q_33, .null, .null, .null])), (q_1, .inl (cA_2, 1875, .inl (fun _ => 0))), (q_3, .inl (cA_4, 5625, .inl (fun _ => 0))), (q_5, .inl (cA_6, 3, .inl (fun _ => 0))), (q_7, .inl (cA_8, 20000, .inl (fun _ => 0))), (q_9, .inl (cA_10, 1200, .inl (fun _ => 0))), (q_11, .inl (cA_12, 5, .inl (fun _ => 0))), (q_13, .inl (cA_14, 1875, .inl (fun _ => 0))), (q_15, .inl (cA_16, 78, .inl (fun _ => 0))), (q_17, .inl (cA_18, 12, .inl (fun _ => 0))), (q_19, .inl (cA_20, 26, .inl (fun _ => 0))), (q_21, .inl (cA_22, 16, .inl (fun _ => 0))), (q_23, .inl (cA_24, 20000, .inl (fun _ => 0))), (q_25, .inl (cA_26, 20000, .inl (fun _ => 0))), (q_27, .inl (cA_28, 12, .inl (upd (upd (upd (upd (upd (upd (upd (upd (upd (upd (upd (upd (fun _ => 0) (0 : Int32).toNatClampNeg 31) (1 : Int32).toNatClampNeg 28) (2 : Int32).toNatClampNeg 31) (3 : Int32).toNatClampNeg 30) (4 : Int32).toNatClampNeg 31) (5 : Int32).toNatClampNeg 30) (6 : Int32).toNatClampNeg 31) (7 : Int32).toNatClampNeg 31) (8 : Int32).toNatClampNeg 30) (9 : Int32).toNatClampNeg 31) (10 : Int32).toNatClampNeg 30) (11 : Int32).toNatClampNeg 31))), (q_29, .inl (cA_30, 201, .inr (.inl (fun _ => 0)))), (q_31, .inl (cA_32, 201, .inr (.inl (fun _ => 0)))), (q_33, .inl (cA_34, 4, .inl (upd (upd (upd (upd (fun _ => 0) (0 : Int32).toNatClampNeg (-1)) (1 : Int32).toNatClampNeg (-1)) (2 : Int32).toNatClampNeg (-1)) (3 : Int32).toNatClampNeg (-1))))] H := hP
  have hD : va_D A [(h0, .inr (8, [.int 0, .ref q_1, .ref q_3, .ref q_5, .ref q_7, .ref q_9, .int 0, .ref q_11, .int 0, .int 0, .int 0, .int 0, .int 0, .int 0, .int (-1), .ref q_13, .ref q_15, .int 0, .int 0, .int 0, .ref q_17, .ref q_19, .long 0, .ref q_21, .ref q_23, .ref q_25, .ref q_27, .ref q_29, .ref q_31, .ref q_33, .null, .null, .null])), (q_1, .inl (cA_2, 1875, .inl (fun _ => 0))), (q_3, .inl (cA_4, 5625, .inl (fun _ => 0))), (q_5, .inl (cA_6, 3, .inl (fun _ => 0))), (q_7, .inl (cA_8, 20000, .inl (fun _ => 0))), (q_9, .inl (cA_10, 1200, .inl (fun _ => 0))), (q_11, .inl (cA_12, 5, .inl (fun _ => 0))), (q_13, .inl (cA_14, 1875, .inl (fun _ => 0))), (q_15, .inl (cA_16, 78, .inl (fun _ => 0))), (q_17, .inl (cA_18, 12, .inl (fun _ => 0))), (q_19, .inl (cA_20, 26, .inl (fun _ => 0))), (q_21, .inl (cA_22, 16, .inl (fun _ => 0))), (q_23, .inl (cA_24, 20000, .inl (fun _ => 0))), (q_25, .inl (cA_26, 20000, .inl (fun _ => 0))), (q_27, .inl (cA_28, 12, .inl (upd (upd (upd (upd (upd (upd (upd (upd (upd (upd (upd (upd (fun _ => 0) (0 : Int32).toNatClampNeg 31) (1 : Int32).toNatClampNeg 28) (2 : Int32).toNatClampNeg 31) (3 : Int32).toNatClampNeg 30) (4 : Int32).toNatClampNeg 31) (5 : Int32).toNatClampNeg 30) (6 : Int32).toNatClampNeg 31) (7 : Int32).toNatClampNeg 31) (8 : Int32).toNatClampNeg 30) (9 : Int32).toNatClampNeg 31) (10 : Int32).toNatClampNeg 30) (11 : Int32).toNatClampNeg 31))), (q_29, .inl (cA_30, 201, .inr (.inl (fun _ => 0)))), (q_31, .inl (cA_32, 201, .inr (.inl (fun _ => 0)))), (q_33, .inl (cA_34, 4, .inl (upd (upd (upd (upd (fun _ => 0) (0 : Int32).toNatClampNeg (-1)) (1 : Int32).toNatClampNeg (-1)) (2 : Int32).toNatClampNeg (-1)) (3 : Int32).toNatClampNeg (-1))))] := hD
  refine lv_aload_n hx hb dX10_init_233 rfl (lv_at hl 0 rfl) ?_
  refine lv_iconst (v := 4) hx hb dX10_init_234 (by decide) ?_
  refine va_newa (atype := .int) (ty := .int) (a0 := (4, .inl (fun _ => 0))) (N' := 4) hx hb (hts (.arrayClass .int) (List.mem_of_getElem? (i := 4) rfl)) rfl hK hP hD hS hA (fun cA => na_int cA 4) (by decide) (by decide) (by decide) (lel 18 20 rfl) (lel 71137 71437 rfl) dX10_init_235 (fun q_35 cA_36 H hK hP hD hS => ?_)
  have hP : va_P (dC, dI) vwCl [(h0, .inr (8, [.int 0, .ref q_1, .ref q_3, .ref q_5, .ref q_7, .ref q_9, .int 0, .ref q_11, .int 0, .int 0, .int 0, .int 0, .int 0, .int 0, .int (-1), .ref q_13, .ref q_15, .int 0, .int 0, .int 0, .ref q_17, .ref q_19, .long 0, .ref q_21, .ref q_23, .ref q_25, .ref q_27, .ref q_29, .ref q_31, .ref q_33, .null, .null, .null])), (q_1, .inl (cA_2, 1875, .inl (fun _ => 0))), (q_3, .inl (cA_4, 5625, .inl (fun _ => 0))), (q_5, .inl (cA_6, 3, .inl (fun _ => 0))), (q_7, .inl (cA_8, 20000, .inl (fun _ => 0))), (q_9, .inl (cA_10, 1200, .inl (fun _ => 0))), (q_11, .inl (cA_12, 5, .inl (fun _ => 0))), (q_13, .inl (cA_14, 1875, .inl (fun _ => 0))), (q_15, .inl (cA_16, 78, .inl (fun _ => 0))), (q_17, .inl (cA_18, 12, .inl (fun _ => 0))), (q_19, .inl (cA_20, 26, .inl (fun _ => 0))), (q_21, .inl (cA_22, 16, .inl (fun _ => 0))), (q_23, .inl (cA_24, 20000, .inl (fun _ => 0))), (q_25, .inl (cA_26, 20000, .inl (fun _ => 0))), (q_27, .inl (cA_28, 12, .inl (upd (upd (upd (upd (upd (upd (upd (upd (upd (upd (upd (upd (fun _ => 0) (0 : Int32).toNatClampNeg 31) (1 : Int32).toNatClampNeg 28) (2 : Int32).toNatClampNeg 31) (3 : Int32).toNatClampNeg 30) (4 : Int32).toNatClampNeg 31) (5 : Int32).toNatClampNeg 30) (6 : Int32).toNatClampNeg 31) (7 : Int32).toNatClampNeg 31) (8 : Int32).toNatClampNeg 30) (9 : Int32).toNatClampNeg 31) (10 : Int32).toNatClampNeg 30) (11 : Int32).toNatClampNeg 31))), (q_29, .inl (cA_30, 201, .inr (.inl (fun _ => 0)))), (q_31, .inl (cA_32, 201, .inr (.inl (fun _ => 0)))), (q_33, .inl (cA_34, 4, .inl (upd (upd (upd (upd (fun _ => 0) (0 : Int32).toNatClampNeg (-1)) (1 : Int32).toNatClampNeg (-1)) (2 : Int32).toNatClampNeg (-1)) (3 : Int32).toNatClampNeg (-1)))), (q_35, .inl (cA_36, 4, .inl (fun _ => 0)))] H := hP
  have hD : va_D A [(h0, .inr (8, [.int 0, .ref q_1, .ref q_3, .ref q_5, .ref q_7, .ref q_9, .int 0, .ref q_11, .int 0, .int 0, .int 0, .int 0, .int 0, .int 0, .int (-1), .ref q_13, .ref q_15, .int 0, .int 0, .int 0, .ref q_17, .ref q_19, .long 0, .ref q_21, .ref q_23, .ref q_25, .ref q_27, .ref q_29, .ref q_31, .ref q_33, .null, .null, .null])), (q_1, .inl (cA_2, 1875, .inl (fun _ => 0))), (q_3, .inl (cA_4, 5625, .inl (fun _ => 0))), (q_5, .inl (cA_6, 3, .inl (fun _ => 0))), (q_7, .inl (cA_8, 20000, .inl (fun _ => 0))), (q_9, .inl (cA_10, 1200, .inl (fun _ => 0))), (q_11, .inl (cA_12, 5, .inl (fun _ => 0))), (q_13, .inl (cA_14, 1875, .inl (fun _ => 0))), (q_15, .inl (cA_16, 78, .inl (fun _ => 0))), (q_17, .inl (cA_18, 12, .inl (fun _ => 0))), (q_19, .inl (cA_20, 26, .inl (fun _ => 0))), (q_21, .inl (cA_22, 16, .inl (fun _ => 0))), (q_23, .inl (cA_24, 20000, .inl (fun _ => 0))), (q_25, .inl (cA_26, 20000, .inl (fun _ => 0))), (q_27, .inl (cA_28, 12, .inl (upd (upd (upd (upd (upd (upd (upd (upd (upd (upd (upd (upd (fun _ => 0) (0 : Int32).toNatClampNeg 31) (1 : Int32).toNatClampNeg 28) (2 : Int32).toNatClampNeg 31) (3 : Int32).toNatClampNeg 30) (4 : Int32).toNatClampNeg 31) (5 : Int32).toNatClampNeg 30) (6 : Int32).toNatClampNeg 31) (7 : Int32).toNatClampNeg 31) (8 : Int32).toNatClampNeg 30) (9 : Int32).toNatClampNeg 31) (10 : Int32).toNatClampNeg 30) (11 : Int32).toNatClampNeg 31))), (q_29, .inl (cA_30, 201, .inr (.inl (fun _ => 0)))), (q_31, .inl (cA_32, 201, .inr (.inl (fun _ => 0)))), (q_33, .inl (cA_34, 4, .inl (upd (upd (upd (upd (fun _ => 0) (0 : Int32).toNatClampNeg (-1)) (1 : Int32).toNatClampNeg (-1)) (2 : Int32).toNatClampNeg (-1)) (3 : Int32).toNatClampNeg (-1)))), (q_35, .inl (cA_36, 4, .inl (fun _ => 0)))] := hD
  have hK : va_K (dC, dI) vwCl [(cA_2, .int), (cA_4, .int), (cA_6, .boolean), (cA_8, .int), (cA_10, .byte), (cA_12, .int), (cA_14, .int), (cA_16, .int), (cA_18, .int), (cA_20, .boolean), (cA_22, .int), (cA_24, .int), (cA_26, .int), (cA_28, .int), (cA_30, .long), (cA_32, .long), (cA_34, .int), (cA_36, .int)] s := hK
  refine W.widen (k := 18) (n := 71137) (lel _ _ rfl) (lel _ _ rfl) ?_
  refine va_putF (D := (dC, dI)) (ci := 8) (v := .ref q_35) (ty := .array .int) (C := RX10) (T := TX10) (N := 33) hx hb hts iX10_init_X10 tyX10 tyX10_ok nmX10 hown hK hP hD hS 0 rfl rfl 30 (by decide) (hts (.fieldLink RX10 68 "LuckyTicketModel" "width" "[I") (List.mem_of_getElem? (i := 26) rfl)) (fun _ h9 => h9) rfl hin rfl (by decide +kernel) rfl rfl (Nat.le_of_ble_eq_true rfl) dX10_init_237 (fun H locs hP hD hS => ?_)
  have hP : va_P (dC, dI) vwCl [(h0, .inr (8, [.int 0, .ref q_1, .ref q_3, .ref q_5, .ref q_7, .ref q_9, .int 0, .ref q_11, .int 0, .int 0, .int 0, .int 0, .int 0, .int 0, .int (-1), .ref q_13, .ref q_15, .int 0, .int 0, .int 0, .ref q_17, .ref q_19, .long 0, .ref q_21, .ref q_23, .ref q_25, .ref q_27, .ref q_29, .ref q_31, .ref q_33, .ref q_35, .null, .null])), (q_1, .inl (cA_2, 1875, .inl (fun _ => 0))), (q_3, .inl (cA_4, 5625, .inl (fun _ => 0))), (q_5, .inl (cA_6, 3, .inl (fun _ => 0))), (q_7, .inl (cA_8, 20000, .inl (fun _ => 0))), (q_9, .inl (cA_10, 1200, .inl (fun _ => 0))), (q_11, .inl (cA_12, 5, .inl (fun _ => 0))), (q_13, .inl (cA_14, 1875, .inl (fun _ => 0))), (q_15, .inl (cA_16, 78, .inl (fun _ => 0))), (q_17, .inl (cA_18, 12, .inl (fun _ => 0))), (q_19, .inl (cA_20, 26, .inl (fun _ => 0))), (q_21, .inl (cA_22, 16, .inl (fun _ => 0))), (q_23, .inl (cA_24, 20000, .inl (fun _ => 0))), (q_25, .inl (cA_26, 20000, .inl (fun _ => 0))), (q_27, .inl (cA_28, 12, .inl (upd (upd (upd (upd (upd (upd (upd (upd (upd (upd (upd (upd (fun _ => 0) (0 : Int32).toNatClampNeg 31) (1 : Int32).toNatClampNeg 28) (2 : Int32).toNatClampNeg 31) (3 : Int32).toNatClampNeg 30) (4 : Int32).toNatClampNeg 31) (5 : Int32).toNatClampNeg 30) (6 : Int32).toNatClampNeg 31) (7 : Int32).toNatClampNeg 31) (8 : Int32).toNatClampNeg 30) (9 : Int32).toNatClampNeg 31) (10 : Int32).toNatClampNeg 30) (11 : Int32).toNatClampNeg 31))), (q_29, .inl (cA_30, 201, .inr (.inl (fun _ => 0)))), (q_31, .inl (cA_32, 201, .inr (.inl (fun _ => 0)))), (q_33, .inl (cA_34, 4, .inl (upd (upd (upd (upd (fun _ => 0) (0 : Int32).toNatClampNeg (-1)) (1 : Int32).toNatClampNeg (-1)) (2 : Int32).toNatClampNeg (-1)) (3 : Int32).toNatClampNeg (-1)))), (q_35, .inl (cA_36, 4, .inl (fun _ => 0)))] H := hP
  have hD : va_D A [(h0, .inr (8, [.int 0, .ref q_1, .ref q_3, .ref q_5, .ref q_7, .ref q_9, .int 0, .ref q_11, .int 0, .int 0, .int 0, .int 0, .int 0, .int 0, .int (-1), .ref q_13, .ref q_15, .int 0, .int 0, .int 0, .ref q_17, .ref q_19, .long 0, .ref q_21, .ref q_23, .ref q_25, .ref q_27, .ref q_29, .ref q_31, .ref q_33, .ref q_35, .null, .null])), (q_1, .inl (cA_2, 1875, .inl (fun _ => 0))), (q_3, .inl (cA_4, 5625, .inl (fun _ => 0))), (q_5, .inl (cA_6, 3, .inl (fun _ => 0))), (q_7, .inl (cA_8, 20000, .inl (fun _ => 0))), (q_9, .inl (cA_10, 1200, .inl (fun _ => 0))), (q_11, .inl (cA_12, 5, .inl (fun _ => 0))), (q_13, .inl (cA_14, 1875, .inl (fun _ => 0))), (q_15, .inl (cA_16, 78, .inl (fun _ => 0))), (q_17, .inl (cA_18, 12, .inl (fun _ => 0))), (q_19, .inl (cA_20, 26, .inl (fun _ => 0))), (q_21, .inl (cA_22, 16, .inl (fun _ => 0))), (q_23, .inl (cA_24, 20000, .inl (fun _ => 0))), (q_25, .inl (cA_26, 20000, .inl (fun _ => 0))), (q_27, .inl (cA_28, 12, .inl (upd (upd (upd (upd (upd (upd (upd (upd (upd (upd (upd (upd (fun _ => 0) (0 : Int32).toNatClampNeg 31) (1 : Int32).toNatClampNeg 28) (2 : Int32).toNatClampNeg 31) (3 : Int32).toNatClampNeg 30) (4 : Int32).toNatClampNeg 31) (5 : Int32).toNatClampNeg 30) (6 : Int32).toNatClampNeg 31) (7 : Int32).toNatClampNeg 31) (8 : Int32).toNatClampNeg 30) (9 : Int32).toNatClampNeg 31) (10 : Int32).toNatClampNeg 30) (11 : Int32).toNatClampNeg 31))), (q_29, .inl (cA_30, 201, .inr (.inl (fun _ => 0)))), (q_31, .inl (cA_32, 201, .inr (.inl (fun _ => 0)))), (q_33, .inl (cA_34, 4, .inl (upd (upd (upd (upd (fun _ => 0) (0 : Int32).toNatClampNeg (-1)) (1 : Int32).toNatClampNeg (-1)) (2 : Int32).toNatClampNeg (-1)) (3 : Int32).toNatClampNeg (-1)))), (q_35, .inl (cA_36, 4, .inl (fun _ => 0)))] := hD
  refine lv_aload_n hx hb dX10_init_240 rfl (lv_at hl 0 rfl) ?_
  refine lv_sipush (v := 240) hx hb dX10_init_241 (by decide) ?_
  refine va_newa (atype := .long) (ty := .long) (a0 := (240, .inr (.inl (fun _ => 0)))) (N' := 240) hx hb (hts (.arrayClass .long) (List.mem_of_getElem? (i := 22) rfl)) rfl hK hP hD hS hA (fun cA => na_long cA 240) (by decide) (by decide) (by decide) (lel 19 20 rfl) (lel 71377 71437 rfl) dX10_init_244 (fun q_37 cA_38 H hK hP hD hS => ?_)
  have hP : va_P (dC, dI) vwCl [(h0, .inr (8, [.int 0, .ref q_1, .ref q_3, .ref q_5, .ref q_7, .ref q_9, .int 0, .ref q_11, .int 0, .int 0, .int 0, .int 0, .int 0, .int 0, .int (-1), .ref q_13, .ref q_15, .int 0, .int 0, .int 0, .ref q_17, .ref q_19, .long 0, .ref q_21, .ref q_23, .ref q_25, .ref q_27, .ref q_29, .ref q_31, .ref q_33, .ref q_35, .null, .null])), (q_1, .inl (cA_2, 1875, .inl (fun _ => 0))), (q_3, .inl (cA_4, 5625, .inl (fun _ => 0))), (q_5, .inl (cA_6, 3, .inl (fun _ => 0))), (q_7, .inl (cA_8, 20000, .inl (fun _ => 0))), (q_9, .inl (cA_10, 1200, .inl (fun _ => 0))), (q_11, .inl (cA_12, 5, .inl (fun _ => 0))), (q_13, .inl (cA_14, 1875, .inl (fun _ => 0))), (q_15, .inl (cA_16, 78, .inl (fun _ => 0))), (q_17, .inl (cA_18, 12, .inl (fun _ => 0))), (q_19, .inl (cA_20, 26, .inl (fun _ => 0))), (q_21, .inl (cA_22, 16, .inl (fun _ => 0))), (q_23, .inl (cA_24, 20000, .inl (fun _ => 0))), (q_25, .inl (cA_26, 20000, .inl (fun _ => 0))), (q_27, .inl (cA_28, 12, .inl (upd (upd (upd (upd (upd (upd (upd (upd (upd (upd (upd (upd (fun _ => 0) (0 : Int32).toNatClampNeg 31) (1 : Int32).toNatClampNeg 28) (2 : Int32).toNatClampNeg 31) (3 : Int32).toNatClampNeg 30) (4 : Int32).toNatClampNeg 31) (5 : Int32).toNatClampNeg 30) (6 : Int32).toNatClampNeg 31) (7 : Int32).toNatClampNeg 31) (8 : Int32).toNatClampNeg 30) (9 : Int32).toNatClampNeg 31) (10 : Int32).toNatClampNeg 30) (11 : Int32).toNatClampNeg 31))), (q_29, .inl (cA_30, 201, .inr (.inl (fun _ => 0)))), (q_31, .inl (cA_32, 201, .inr (.inl (fun _ => 0)))), (q_33, .inl (cA_34, 4, .inl (upd (upd (upd (upd (fun _ => 0) (0 : Int32).toNatClampNeg (-1)) (1 : Int32).toNatClampNeg (-1)) (2 : Int32).toNatClampNeg (-1)) (3 : Int32).toNatClampNeg (-1)))), (q_35, .inl (cA_36, 4, .inl (fun _ => 0))), (q_37, .inl (cA_38, 240, .inr (.inl (fun _ => 0))))] H := hP
  have hD : va_D A [(h0, .inr (8, [.int 0, .ref q_1, .ref q_3, .ref q_5, .ref q_7, .ref q_9, .int 0, .ref q_11, .int 0, .int 0, .int 0, .int 0, .int 0, .int 0, .int (-1), .ref q_13, .ref q_15, .int 0, .int 0, .int 0, .ref q_17, .ref q_19, .long 0, .ref q_21, .ref q_23, .ref q_25, .ref q_27, .ref q_29, .ref q_31, .ref q_33, .ref q_35, .null, .null])), (q_1, .inl (cA_2, 1875, .inl (fun _ => 0))), (q_3, .inl (cA_4, 5625, .inl (fun _ => 0))), (q_5, .inl (cA_6, 3, .inl (fun _ => 0))), (q_7, .inl (cA_8, 20000, .inl (fun _ => 0))), (q_9, .inl (cA_10, 1200, .inl (fun _ => 0))), (q_11, .inl (cA_12, 5, .inl (fun _ => 0))), (q_13, .inl (cA_14, 1875, .inl (fun _ => 0))), (q_15, .inl (cA_16, 78, .inl (fun _ => 0))), (q_17, .inl (cA_18, 12, .inl (fun _ => 0))), (q_19, .inl (cA_20, 26, .inl (fun _ => 0))), (q_21, .inl (cA_22, 16, .inl (fun _ => 0))), (q_23, .inl (cA_24, 20000, .inl (fun _ => 0))), (q_25, .inl (cA_26, 20000, .inl (fun _ => 0))), (q_27, .inl (cA_28, 12, .inl (upd (upd (upd (upd (upd (upd (upd (upd (upd (upd (upd (upd (fun _ => 0) (0 : Int32).toNatClampNeg 31) (1 : Int32).toNatClampNeg 28) (2 : Int32).toNatClampNeg 31) (3 : Int32).toNatClampNeg 30) (4 : Int32).toNatClampNeg 31) (5 : Int32).toNatClampNeg 30) (6 : Int32).toNatClampNeg 31) (7 : Int32).toNatClampNeg 31) (8 : Int32).toNatClampNeg 30) (9 : Int32).toNatClampNeg 31) (10 : Int32).toNatClampNeg 30) (11 : Int32).toNatClampNeg 31))), (q_29, .inl (cA_30, 201, .inr (.inl (fun _ => 0)))), (q_31, .inl (cA_32, 201, .inr (.inl (fun _ => 0)))), (q_33, .inl (cA_34, 4, .inl (upd (upd (upd (upd (fun _ => 0) (0 : Int32).toNatClampNeg (-1)) (1 : Int32).toNatClampNeg (-1)) (2 : Int32).toNatClampNeg (-1)) (3 : Int32).toNatClampNeg (-1)))), (q_35, .inl (cA_36, 4, .inl (fun _ => 0))), (q_37, .inl (cA_38, 240, .inr (.inl (fun _ => 0))))] := hD
  have hK : va_K (dC, dI) vwCl [(cA_2, .int), (cA_4, .int), (cA_6, .boolean), (cA_8, .int), (cA_10, .byte), (cA_12, .int), (cA_14, .int), (cA_16, .int), (cA_18, .int), (cA_20, .boolean), (cA_22, .int), (cA_24, .int), (cA_26, .int), (cA_28, .int), (cA_30, .long), (cA_32, .long), (cA_34, .int), (cA_36, .int), (cA_38, .long)] s := hK
  refine W.widen (k := 19) (n := 71377) (lel _ _ rfl) (lel _ _ rfl) ?_
  refine va_putF (D := (dC, dI)) (ci := 8) (v := .ref q_37) (ty := .array .long) (C := RX10) (T := TX10) (N := 33) hx hb hts iX10_init_X10 tyX10 tyX10_ok nmX10 hown hK hP hD hS 0 rfl rfl 31 (by decide) (hts (.fieldLink RX10 71 "LuckyTicketModel" "numbers" "[J") (List.mem_of_getElem? (i := 27) rfl)) (fun _ h9 => h9) rfl hin rfl (by decide +kernel) rfl rfl (Nat.le_of_ble_eq_true rfl) dX10_init_246 (fun H locs hP hD hS => ?_)
  have hP : va_P (dC, dI) vwCl [(h0, .inr (8, [.int 0, .ref q_1, .ref q_3, .ref q_5, .ref q_7, .ref q_9, .int 0, .ref q_11, .int 0, .int 0, .int 0, .int 0, .int 0, .int 0, .int (-1), .ref q_13, .ref q_15, .int 0, .int 0, .int 0, .ref q_17, .ref q_19, .long 0, .ref q_21, .ref q_23, .ref q_25, .ref q_27, .ref q_29, .ref q_31, .ref q_33, .ref q_35, .ref q_37, .null])), (q_1, .inl (cA_2, 1875, .inl (fun _ => 0))), (q_3, .inl (cA_4, 5625, .inl (fun _ => 0))), (q_5, .inl (cA_6, 3, .inl (fun _ => 0))), (q_7, .inl (cA_8, 20000, .inl (fun _ => 0))), (q_9, .inl (cA_10, 1200, .inl (fun _ => 0))), (q_11, .inl (cA_12, 5, .inl (fun _ => 0))), (q_13, .inl (cA_14, 1875, .inl (fun _ => 0))), (q_15, .inl (cA_16, 78, .inl (fun _ => 0))), (q_17, .inl (cA_18, 12, .inl (fun _ => 0))), (q_19, .inl (cA_20, 26, .inl (fun _ => 0))), (q_21, .inl (cA_22, 16, .inl (fun _ => 0))), (q_23, .inl (cA_24, 20000, .inl (fun _ => 0))), (q_25, .inl (cA_26, 20000, .inl (fun _ => 0))), (q_27, .inl (cA_28, 12, .inl (upd (upd (upd (upd (upd (upd (upd (upd (upd (upd (upd (upd (fun _ => 0) (0 : Int32).toNatClampNeg 31) (1 : Int32).toNatClampNeg 28) (2 : Int32).toNatClampNeg 31) (3 : Int32).toNatClampNeg 30) (4 : Int32).toNatClampNeg 31) (5 : Int32).toNatClampNeg 30) (6 : Int32).toNatClampNeg 31) (7 : Int32).toNatClampNeg 31) (8 : Int32).toNatClampNeg 30) (9 : Int32).toNatClampNeg 31) (10 : Int32).toNatClampNeg 30) (11 : Int32).toNatClampNeg 31))), (q_29, .inl (cA_30, 201, .inr (.inl (fun _ => 0)))), (q_31, .inl (cA_32, 201, .inr (.inl (fun _ => 0)))), (q_33, .inl (cA_34, 4, .inl (upd (upd (upd (upd (fun _ => 0) (0 : Int32).toNatClampNeg (-1)) (1 : Int32).toNatClampNeg (-1)) (2 : Int32).toNatClampNeg (-1)) (3 : Int32).toNatClampNeg (-1)))), (q_35, .inl (cA_36, 4, .inl (fun _ => 0))), (q_37, .inl (cA_38, 240, .inr (.inl (fun _ => 0))))] H := hP
  have hD : va_D A [(h0, .inr (8, [.int 0, .ref q_1, .ref q_3, .ref q_5, .ref q_7, .ref q_9, .int 0, .ref q_11, .int 0, .int 0, .int 0, .int 0, .int 0, .int 0, .int (-1), .ref q_13, .ref q_15, .int 0, .int 0, .int 0, .ref q_17, .ref q_19, .long 0, .ref q_21, .ref q_23, .ref q_25, .ref q_27, .ref q_29, .ref q_31, .ref q_33, .ref q_35, .ref q_37, .null])), (q_1, .inl (cA_2, 1875, .inl (fun _ => 0))), (q_3, .inl (cA_4, 5625, .inl (fun _ => 0))), (q_5, .inl (cA_6, 3, .inl (fun _ => 0))), (q_7, .inl (cA_8, 20000, .inl (fun _ => 0))), (q_9, .inl (cA_10, 1200, .inl (fun _ => 0))), (q_11, .inl (cA_12, 5, .inl (fun _ => 0))), (q_13, .inl (cA_14, 1875, .inl (fun _ => 0))), (q_15, .inl (cA_16, 78, .inl (fun _ => 0))), (q_17, .inl (cA_18, 12, .inl (fun _ => 0))), (q_19, .inl (cA_20, 26, .inl (fun _ => 0))), (q_21, .inl (cA_22, 16, .inl (fun _ => 0))), (q_23, .inl (cA_24, 20000, .inl (fun _ => 0))), (q_25, .inl (cA_26, 20000, .inl (fun _ => 0))), (q_27, .inl (cA_28, 12, .inl (upd (upd (upd (upd (upd (upd (upd (upd (upd (upd (upd (upd (fun _ => 0) (0 : Int32).toNatClampNeg 31) (1 : Int32).toNatClampNeg 28) (2 : Int32).toNatClampNeg 31) (3 : Int32).toNatClampNeg 30) (4 : Int32).toNatClampNeg 31) (5 : Int32).toNatClampNeg 30) (6 : Int32).toNatClampNeg 31) (7 : Int32).toNatClampNeg 31) (8 : Int32).toNatClampNeg 30) (9 : Int32).toNatClampNeg 31) (10 : Int32).toNatClampNeg 30) (11 : Int32).toNatClampNeg 31))), (q_29, .inl (cA_30, 201, .inr (.inl (fun _ => 0)))), (q_31, .inl (cA_32, 201, .inr (.inl (fun _ => 0)))), (q_33, .inl (cA_34, 4, .inl (upd (upd (upd (upd (fun _ => 0) (0 : Int32).toNatClampNeg (-1)) (1 : Int32).toNatClampNeg (-1)) (2 : Int32).toNatClampNeg (-1)) (3 : Int32).toNatClampNeg (-1)))), (q_35, .inl (cA_36, 4, .inl (fun _ => 0))), (q_37, .inl (cA_38, 240, .inr (.inl (fun _ => 0))))] := hD
  refine lv_aload_n hx hb dX10_init_249 rfl (lv_at hl 0 rfl) ?_
  refine lv_bipush (v := 60) hx hb dX10_init_250 (by decide) ?_
  refine va_newa (atype := .long) (ty := .long) (a0 := (60, .inr (.inl (fun _ => 0)))) (N' := 60) hx hb (hts (.arrayClass .long) (List.mem_of_getElem? (i := 22) rfl)) rfl hK hP hD hS hA (fun cA => na_long cA 60) (by decide) (by decide) (by decide) (lel 20 20 rfl) (lel 71437 71437 rfl) dX10_init_252 (fun q_39 cA_40 H hK hP hD hS => ?_)
  have hP : va_P (dC, dI) vwCl [(h0, .inr (8, [.int 0, .ref q_1, .ref q_3, .ref q_5, .ref q_7, .ref q_9, .int 0, .ref q_11, .int 0, .int 0, .int 0, .int 0, .int 0, .int 0, .int (-1), .ref q_13, .ref q_15, .int 0, .int 0, .int 0, .ref q_17, .ref q_19, .long 0, .ref q_21, .ref q_23, .ref q_25, .ref q_27, .ref q_29, .ref q_31, .ref q_33, .ref q_35, .ref q_37, .null])), (q_1, .inl (cA_2, 1875, .inl (fun _ => 0))), (q_3, .inl (cA_4, 5625, .inl (fun _ => 0))), (q_5, .inl (cA_6, 3, .inl (fun _ => 0))), (q_7, .inl (cA_8, 20000, .inl (fun _ => 0))), (q_9, .inl (cA_10, 1200, .inl (fun _ => 0))), (q_11, .inl (cA_12, 5, .inl (fun _ => 0))), (q_13, .inl (cA_14, 1875, .inl (fun _ => 0))), (q_15, .inl (cA_16, 78, .inl (fun _ => 0))), (q_17, .inl (cA_18, 12, .inl (fun _ => 0))), (q_19, .inl (cA_20, 26, .inl (fun _ => 0))), (q_21, .inl (cA_22, 16, .inl (fun _ => 0))), (q_23, .inl (cA_24, 20000, .inl (fun _ => 0))), (q_25, .inl (cA_26, 20000, .inl (fun _ => 0))), (q_27, .inl (cA_28, 12, .inl (upd (upd (upd (upd (upd (upd (upd (upd (upd (upd (upd (upd (fun _ => 0) (0 : Int32).toNatClampNeg 31) (1 : Int32).toNatClampNeg 28) (2 : Int32).toNatClampNeg 31) (3 : Int32).toNatClampNeg 30) (4 : Int32).toNatClampNeg 31) (5 : Int32).toNatClampNeg 30) (6 : Int32).toNatClampNeg 31) (7 : Int32).toNatClampNeg 31) (8 : Int32).toNatClampNeg 30) (9 : Int32).toNatClampNeg 31) (10 : Int32).toNatClampNeg 30) (11 : Int32).toNatClampNeg 31))), (q_29, .inl (cA_30, 201, .inr (.inl (fun _ => 0)))), (q_31, .inl (cA_32, 201, .inr (.inl (fun _ => 0)))), (q_33, .inl (cA_34, 4, .inl (upd (upd (upd (upd (fun _ => 0) (0 : Int32).toNatClampNeg (-1)) (1 : Int32).toNatClampNeg (-1)) (2 : Int32).toNatClampNeg (-1)) (3 : Int32).toNatClampNeg (-1)))), (q_35, .inl (cA_36, 4, .inl (fun _ => 0))), (q_37, .inl (cA_38, 240, .inr (.inl (fun _ => 0)))), (q_39, .inl (cA_40, 60, .inr (.inl (fun _ => 0))))] H := hP
  have hD : va_D A [(h0, .inr (8, [.int 0, .ref q_1, .ref q_3, .ref q_5, .ref q_7, .ref q_9, .int 0, .ref q_11, .int 0, .int 0, .int 0, .int 0, .int 0, .int 0, .int (-1), .ref q_13, .ref q_15, .int 0, .int 0, .int 0, .ref q_17, .ref q_19, .long 0, .ref q_21, .ref q_23, .ref q_25, .ref q_27, .ref q_29, .ref q_31, .ref q_33, .ref q_35, .ref q_37, .null])), (q_1, .inl (cA_2, 1875, .inl (fun _ => 0))), (q_3, .inl (cA_4, 5625, .inl (fun _ => 0))), (q_5, .inl (cA_6, 3, .inl (fun _ => 0))), (q_7, .inl (cA_8, 20000, .inl (fun _ => 0))), (q_9, .inl (cA_10, 1200, .inl (fun _ => 0))), (q_11, .inl (cA_12, 5, .inl (fun _ => 0))), (q_13, .inl (cA_14, 1875, .inl (fun _ => 0))), (q_15, .inl (cA_16, 78, .inl (fun _ => 0))), (q_17, .inl (cA_18, 12, .inl (fun _ => 0))), (q_19, .inl (cA_20, 26, .inl (fun _ => 0))), (q_21, .inl (cA_22, 16, .inl (fun _ => 0))), (q_23, .inl (cA_24, 20000, .inl (fun _ => 0))), (q_25, .inl (cA_26, 20000, .inl (fun _ => 0))), (q_27, .inl (cA_28, 12, .inl (upd (upd (upd (upd (upd (upd (upd (upd (upd (upd (upd (upd (fun _ => 0) (0 : Int32).toNatClampNeg 31) (1 : Int32).toNatClampNeg 28) (2 : Int32).toNatClampNeg 31) (3 : Int32).toNatClampNeg 30) (4 : Int32).toNatClampNeg 31) (5 : Int32).toNatClampNeg 30) (6 : Int32).toNatClampNeg 31) (7 : Int32).toNatClampNeg 31) (8 : Int32).toNatClampNeg 30) (9 : Int32).toNatClampNeg 31) (10 : Int32).toNatClampNeg 30) (11 : Int32).toNatClampNeg 31))), (q_29, .inl (cA_30, 201, .inr (.inl (fun _ => 0)))), (q_31, .inl (cA_32, 201, .inr (.inl (fun _ => 0)))), (q_33, .inl (cA_34, 4, .inl (upd (upd (upd (upd (fun _ => 0) (0 : Int32).toNatClampNeg (-1)) (1 : Int32).toNatClampNeg (-1)) (2 : Int32).toNatClampNeg (-1)) (3 : Int32).toNatClampNeg (-1)))), (q_35, .inl (cA_36, 4, .inl (fun _ => 0))), (q_37, .inl (cA_38, 240, .inr (.inl (fun _ => 0)))), (q_39, .inl (cA_40, 60, .inr (.inl (fun _ => 0))))] := hD
  have hK : va_K (dC, dI) vwCl [(cA_2, .int), (cA_4, .int), (cA_6, .boolean), (cA_8, .int), (cA_10, .byte), (cA_12, .int), (cA_14, .int), (cA_16, .int), (cA_18, .int), (cA_20, .boolean), (cA_22, .int), (cA_24, .int), (cA_26, .int), (cA_28, .int), (cA_30, .long), (cA_32, .long), (cA_34, .int), (cA_36, .int), (cA_38, .long), (cA_40, .long)] s := hK
  refine W.widen (k := 20) (n := 71437) (lel _ _ rfl) (lel _ _ rfl) ?_
  refine va_putF (D := (dC, dI)) (ci := 8) (v := .ref q_39) (ty := .array .long) (C := RX10) (T := TX10) (N := 33) hx hb hts iX10_init_X10 tyX10 tyX10_ok nmX10 hown hK hP hD hS 0 rfl rfl 32 (by decide) (hts (.fieldLink RX10 74 "LuckyTicketModel" "moving" "[J") (List.mem_of_getElem? (i := 28) rfl)) (fun _ h9 => h9) rfl hin rfl (by decide +kernel) rfl rfl (Nat.le_of_ble_eq_true rfl) dX10_init_254 (fun H locs hP hD hS => ?_)
  have hP : va_P (dC, dI) vwCl [(h0, .inr (8, [.int 0, .ref q_1, .ref q_3, .ref q_5, .ref q_7, .ref q_9, .int 0, .ref q_11, .int 0, .int 0, .int 0, .int 0, .int 0, .int 0, .int (-1), .ref q_13, .ref q_15, .int 0, .int 0, .int 0, .ref q_17, .ref q_19, .long 0, .ref q_21, .ref q_23, .ref q_25, .ref q_27, .ref q_29, .ref q_31, .ref q_33, .ref q_35, .ref q_37, .ref q_39])), (q_1, .inl (cA_2, 1875, .inl (fun _ => 0))), (q_3, .inl (cA_4, 5625, .inl (fun _ => 0))), (q_5, .inl (cA_6, 3, .inl (fun _ => 0))), (q_7, .inl (cA_8, 20000, .inl (fun _ => 0))), (q_9, .inl (cA_10, 1200, .inl (fun _ => 0))), (q_11, .inl (cA_12, 5, .inl (fun _ => 0))), (q_13, .inl (cA_14, 1875, .inl (fun _ => 0))), (q_15, .inl (cA_16, 78, .inl (fun _ => 0))), (q_17, .inl (cA_18, 12, .inl (fun _ => 0))), (q_19, .inl (cA_20, 26, .inl (fun _ => 0))), (q_21, .inl (cA_22, 16, .inl (fun _ => 0))), (q_23, .inl (cA_24, 20000, .inl (fun _ => 0))), (q_25, .inl (cA_26, 20000, .inl (fun _ => 0))), (q_27, .inl (cA_28, 12, .inl (upd (upd (upd (upd (upd (upd (upd (upd (upd (upd (upd (upd (fun _ => 0) (0 : Int32).toNatClampNeg 31) (1 : Int32).toNatClampNeg 28) (2 : Int32).toNatClampNeg 31) (3 : Int32).toNatClampNeg 30) (4 : Int32).toNatClampNeg 31) (5 : Int32).toNatClampNeg 30) (6 : Int32).toNatClampNeg 31) (7 : Int32).toNatClampNeg 31) (8 : Int32).toNatClampNeg 30) (9 : Int32).toNatClampNeg 31) (10 : Int32).toNatClampNeg 30) (11 : Int32).toNatClampNeg 31))), (q_29, .inl (cA_30, 201, .inr (.inl (fun _ => 0)))), (q_31, .inl (cA_32, 201, .inr (.inl (fun _ => 0)))), (q_33, .inl (cA_34, 4, .inl (upd (upd (upd (upd (fun _ => 0) (0 : Int32).toNatClampNeg (-1)) (1 : Int32).toNatClampNeg (-1)) (2 : Int32).toNatClampNeg (-1)) (3 : Int32).toNatClampNeg (-1)))), (q_35, .inl (cA_36, 4, .inl (fun _ => 0))), (q_37, .inl (cA_38, 240, .inr (.inl (fun _ => 0)))), (q_39, .inl (cA_40, 60, .inr (.inl (fun _ => 0))))] H := hP
  have hD : va_D A [(h0, .inr (8, [.int 0, .ref q_1, .ref q_3, .ref q_5, .ref q_7, .ref q_9, .int 0, .ref q_11, .int 0, .int 0, .int 0, .int 0, .int 0, .int 0, .int (-1), .ref q_13, .ref q_15, .int 0, .int 0, .int 0, .ref q_17, .ref q_19, .long 0, .ref q_21, .ref q_23, .ref q_25, .ref q_27, .ref q_29, .ref q_31, .ref q_33, .ref q_35, .ref q_37, .ref q_39])), (q_1, .inl (cA_2, 1875, .inl (fun _ => 0))), (q_3, .inl (cA_4, 5625, .inl (fun _ => 0))), (q_5, .inl (cA_6, 3, .inl (fun _ => 0))), (q_7, .inl (cA_8, 20000, .inl (fun _ => 0))), (q_9, .inl (cA_10, 1200, .inl (fun _ => 0))), (q_11, .inl (cA_12, 5, .inl (fun _ => 0))), (q_13, .inl (cA_14, 1875, .inl (fun _ => 0))), (q_15, .inl (cA_16, 78, .inl (fun _ => 0))), (q_17, .inl (cA_18, 12, .inl (fun _ => 0))), (q_19, .inl (cA_20, 26, .inl (fun _ => 0))), (q_21, .inl (cA_22, 16, .inl (fun _ => 0))), (q_23, .inl (cA_24, 20000, .inl (fun _ => 0))), (q_25, .inl (cA_26, 20000, .inl (fun _ => 0))), (q_27, .inl (cA_28, 12, .inl (upd (upd (upd (upd (upd (upd (upd (upd (upd (upd (upd (upd (fun _ => 0) (0 : Int32).toNatClampNeg 31) (1 : Int32).toNatClampNeg 28) (2 : Int32).toNatClampNeg 31) (3 : Int32).toNatClampNeg 30) (4 : Int32).toNatClampNeg 31) (5 : Int32).toNatClampNeg 30) (6 : Int32).toNatClampNeg 31) (7 : Int32).toNatClampNeg 31) (8 : Int32).toNatClampNeg 30) (9 : Int32).toNatClampNeg 31) (10 : Int32).toNatClampNeg 30) (11 : Int32).toNatClampNeg 31))), (q_29, .inl (cA_30, 201, .inr (.inl (fun _ => 0)))), (q_31, .inl (cA_32, 201, .inr (.inl (fun _ => 0)))), (q_33, .inl (cA_34, 4, .inl (upd (upd (upd (upd (fun _ => 0) (0 : Int32).toNatClampNeg (-1)) (1 : Int32).toNatClampNeg (-1)) (2 : Int32).toNatClampNeg (-1)) (3 : Int32).toNatClampNeg (-1)))), (q_35, .inl (cA_36, 4, .inl (fun _ => 0))), (q_37, .inl (cA_38, 240, .inr (.inl (fun _ => 0)))), (q_39, .inl (cA_40, 60, .inr (.inl (fun _ => 0))))] := hD
  have hP9 := hP.sub (ws' := [(h0, .inr (8, [.int 0, .ref q_1, .ref q_3, .ref q_5, .ref q_7, .ref q_9, .int 0, .ref q_11, .int 0, .int 0, .int 0, .int 0, .int 0, .int 0, .int (-1), .ref q_13, .ref q_15, .int 0, .int 0, .int 0, .ref q_17, .ref q_19, .long 0, .ref q_21, .ref q_23, .ref q_25, .ref q_27, .ref q_29, .ref q_31, .ref q_33, .ref q_35, .ref q_37, .ref q_39])), (q_1, .inl (cA_2, 1875, .inl (fun _ => 0))), (q_3, .inl (cA_4, 5625, .inl (fun _ => 0))), (q_5, .inl (cA_6, 3, .inl (fun _ => 0))), (q_7, .inl (cA_8, 20000, .inl (fun _ => 0))), (q_9, .inl (cA_10, 1200, .inl (fun _ => 0))), (q_11, .inl (cA_12, 5, .inl (fun _ => 0))), (q_13, .inl (cA_14, 1875, .inl (fun _ => 0))), (q_15, .inl (cA_16, 78, .inl (fun _ => 0))), (q_17, .inl (cA_18, 12, .inl (fun _ => 0))), (q_19, .inl (cA_20, 26, .inl (fun _ => 0))), (q_21, .inl (cA_22, 16, .inl (fun _ => 0))), (q_23, .inl (cA_24, 20000, .inl (fun _ => 0))), (q_25, .inl (cA_26, 20000, .inl (fun _ => 0))), (q_27, .inl (cA_28, 12, .inl monthsF)), (q_29, .inl (cA_30, 201, .inr (.inl (fun _ => 0)))), (q_31, .inl (cA_32, 201, .inr (.inl (fun _ => 0)))), (q_33, .inl (cA_34, 4, .inl manyF)), (q_35, .inl (cA_36, 4, .inl (fun _ => 0))), (q_37, .inl (cA_38, 240, .inr (.inl (fun _ => 0)))), (q_39, .inl (cA_40, 60, .inr (.inl (fun _ => 0))))]) [0, 1, 2, 3, 4, 5, 6, 7, 8, 9, 10, 11, 12, 13, 14, 15, 16, 17, 18, 19, 20] rfl
  have hD9 := hD.sub (ws' := [(h0, .inr (8, [.int 0, .ref q_1, .ref q_3, .ref q_5, .ref q_7, .ref q_9, .int 0, .ref q_11, .int 0, .int 0, .int 0, .int 0, .int 0, .int 0, .int (-1), .ref q_13, .ref q_15, .int 0, .int 0, .int 0, .ref q_17, .ref q_19, .long 0, .ref q_21, .ref q_23, .ref q_25, .ref q_27, .ref q_29, .ref q_31, .ref q_33, .ref q_35, .ref q_37, .ref q_39])), (q_1, .inl (cA_2, 1875, .inl (fun _ => 0))), (q_3, .inl (cA_4, 5625, .inl (fun _ => 0))), (q_5, .inl (cA_6, 3, .inl (fun _ => 0))), (q_7, .inl (cA_8, 20000, .inl (fun _ => 0))), (q_9, .inl (cA_10, 1200, .inl (fun _ => 0))), (q_11, .inl (cA_12, 5, .inl (fun _ => 0))), (q_13, .inl (cA_14, 1875, .inl (fun _ => 0))), (q_15, .inl (cA_16, 78, .inl (fun _ => 0))), (q_17, .inl (cA_18, 12, .inl (fun _ => 0))), (q_19, .inl (cA_20, 26, .inl (fun _ => 0))), (q_21, .inl (cA_22, 16, .inl (fun _ => 0))), (q_23, .inl (cA_24, 20000, .inl (fun _ => 0))), (q_25, .inl (cA_26, 20000, .inl (fun _ => 0))), (q_27, .inl (cA_28, 12, .inl monthsF)), (q_29, .inl (cA_30, 201, .inr (.inl (fun _ => 0)))), (q_31, .inl (cA_32, 201, .inr (.inl (fun _ => 0)))), (q_33, .inl (cA_34, 4, .inl manyF)), (q_35, .inl (cA_36, 4, .inl (fun _ => 0))), (q_37, .inl (cA_38, 240, .inr (.inl (fun _ => 0)))), (q_39, .inl (cA_40, 60, .inr (.inl (fun _ => 0))))]) [0, 1, 2, 3, 4, 5, 6, 7, 8, 9, 10, 11, 12, 13, 14, 15, 16, 17, 18, 19, 20] (by decide) rfl
  have hK9 := hK.sub (tys' := [(cA_2, .int), (cA_4, .int), (cA_6, .boolean), (cA_8, .int), (cA_10, .byte), (cA_12, .int), (cA_14, .int), (cA_16, .int), (cA_18, .int), (cA_20, .boolean), (cA_22, .int), (cA_24, .int), (cA_26, .int), (cA_28, .int), (cA_30, .long), (cA_32, .long), (cA_34, .int), (cA_36, .int), (cA_38, .long), (cA_40, .long)]) [0, 1, 2, 3, 4, 5, 6, 7, 8, 9, 10, 11, 12, 13, 14, 15, 16, 17, 18, 19] rfl
  exact W.vret hx hb hr (fun t ht hW => ⟨⟨(), rfl, trivial, q_1, q_3, q_5, q_7, q_9, q_11, q_13, q_15, q_17, q_19, q_21, q_23, q_25, q_27, q_29, q_31, q_33, q_35, q_37, q_39, cA_2, cA_4, cA_6, cA_8, cA_10, cA_12, cA_14, cA_16, cA_18, cA_20, cA_22, cA_24, cA_26, cA_28, cA_30, cA_32, cA_34, cA_36, cA_38, cA_40, by rw [ht]; exact hP9, va_K.moved hW.alike hK9, hD9⟩, hS.F ht⟩) hS.2.2 dX10_init_257
end
section
def fz (a : Int32) : Int32 := if a = 0 then 0 else -1
theorem fz_z {a : Int32} (h : a = 0) : (0 : Int32) = fz a := (if_pos h).symm
theorem fz_n {a : Int32} (h : ¬ a = 0) : (-1 : Int32) = fz a := (if_neg h).symm
theorem fz_lt {a : Int32} (h : a < 0) : (-1 : Int32) = fz a := fz_n (fun e => by rw [e] at h; exact absurd h (by decide))
theorem fz_gt {a : Int32} (h : ¬ a ≤ 0) : (-1 : Int32) = fz a := fz_n (fun e => by rw [e] at h; exact absurd h (by decide))
theorem fz_ge {a : Int32} (h1 : ¬ a < 0) (h2 : a ≤ 0) : a = fz a := by
  have e : a = 0 := by
    rw [Int32.lt_iff_toInt_lt] at h1; rw [Int32.le_iff_toInt_le] at h2
    have z : (0 : Int32).toInt = 0 := by decide
    exact Int32.toInt_inj.mp (by omega)
  rw [e]; rfl
theorem fz_in0 {a : Int32} (h : inr a.toInt64 0 0 = 0) : (-1 : Int32) = fz a := fz_n (fun e => by rw [e] at h; exact absurd h (by decide))
theorem fz_in1 {a : Int32} (h : ¬ inr a.toInt64 0 0 = 0) : a = fz a := by
  have q := wi_yes (n := a) (lo := 0) (hi := 0) (fun e => h ((inr_wi a 0 0).trans e))
  exact fz_ge (fun c => fa_not c q.1) q.2
def b2 (a : Int32) : Int32 := if wi a 0 2 = 0 then -2 else -6
def w2 (a : Int32) : Int32 := if wi a 0 3 = 0 then -2 else -6
def p2 (a b : Int32) : Int32 := if wi a 0 3 = 0 ∨ wi b 0 3 = 0 then -2 else -6
def ct (a : Int32) : Int32 := if a.toInt < 0 ∨ 7 < a.toInt then -1 else 0
theorem wi_3 {a : Int32} (h : ¬ wi a 0 2 = 0) : a = 0 ∨ a = 1 ∨ a = 2 := by
  obtain ⟨j, hj, rfl⟩ := wi_nat (k := 2) (by decide) h
  rcases (show j = 0 ∨ j = 1 ∨ j = 2 by omega) with rfl | rfl | rfl
  · exact Or.inl rfl
  · exact Or.inr (Or.inl rfl)
  · exact Or.inr (Or.inr rfl)
theorem ts_8 {a : Int32} (h : ¬ (a.toInt < 0 ∨ 7 < a.toInt)) : a = 0 ∨ a = 1 ∨ a = 2 ∨ a = 3 ∨ a = 4 ∨ a = 5 ∨ a = 6 ∨ a = 7 := by
  have e : ∀ (k : Int32), a.toInt = k.toInt → a = k := fun k q => Int32.toInt_inj.mp q
  rcases (show a.toInt = 0 ∨ a.toInt = 1 ∨ a.toInt = 2 ∨ a.toInt = 3 ∨ a.toInt = 4 ∨ a.toInt = 5 ∨ a.toInt = 6 ∨ a.toInt = 7 by omega) with q | q | q | q | q | q | q | q
  · exact Or.inl (e 0 q)
  · exact Or.inr (Or.inl (e 1 q))
  · exact Or.inr (Or.inr (Or.inl (e 2 q)))
  · exact Or.inr (Or.inr (Or.inr (Or.inl (e 3 q))))
  · exact Or.inr (Or.inr (Or.inr (Or.inr (Or.inl (e 4 q)))))
  · exact Or.inr (Or.inr (Or.inr (Or.inr (Or.inr (Or.inl (e 5 q))))))
  · exact Or.inr (Or.inr (Or.inr (Or.inr (Or.inr (Or.inr (Or.inl (e 6 q)))))))
  · exact Or.inr (Or.inr (Or.inr (Or.inr (Or.inr (Or.inr (Or.inr (e 7 q)))))))
theorem sf3_0 (a b c : Nat) : sf3 a b c (0 : Int32).toNatClampNeg = some a := rfl
theorem sf3_1 (a b c : Nat) : sf3 a b c (1 : Int32).toNatClampNeg = some b := rfl
theorem sf3_2 (a b c : Nat) : sf3 a b c (2 : Int32).toNatClampNeg = some c := rfl
theorem sf4_0 (a b c d : Nat) : sf4 a b c d (0 : Int32).toNatClampNeg = some a := rfl
theorem sf4_1 (a b c d : Nat) : sf4 a b c d (1 : Int32).toNatClampNeg = some b := rfl
theorem sf4_2 (a b c d : Nat) : sf4 a b c d (2 : Int32).toNatClampNeg = some c := rfl
theorem sf4_3 (a b c d : Nat) : sf4 a b c d (3 : Int32).toNatClampNeg = some d := rfl
theorem dX9_fault_0 : decode cX9_fault 0 = .ok (.iload_n 1, 1) := by decide +kernel
theorem dX9_fault_1 : decode cX9_fault 1 = .ok (.ifCond .ne 11, 3) := by decide +kernel
theorem dX9_fault_4 : decode cX9_fault 4 = .ok (.aload_n 0, 1) := by decide +kernel
theorem dX9_fault_5 : decode cX9_fault 5 = .ok (.getfield 28, 3) := by decide +kernel
theorem dX9_fault_8 : decode cX9_fault 8 = .ok (.getfield 87, 3) := by decide +kernel
theorem dX9_fault_11 : decode cX9_fault 11 = .ok (.ireturn, 1) := by decide +kernel
theorem dX9_fault_12 : decode cX9_fault 12 = .ok (.iload_n 1, 1) := by decide +kernel
theorem dX9_fault_13 : decode cX9_fault 13 = .ok (.iconst 1, 1) := by decide +kernel
theorem dX9_fault_14 : decode cX9_fault 14 = .ok (.if_icmp .ne 13, 3) := by decide +kernel
theorem dX9_fault_17 : decode cX9_fault 17 = .ok (.aload_n 0, 1) := by decide +kernel
theorem dX9_fault_18 : decode cX9_fault 18 = .ok (.getfield 28, 3) := by decide +kernel
theorem dX9_fault_21 : decode cX9_fault 21 = .ok (.getfield 97, 3) := by decide +kernel
theorem dX9_fault_24 : decode cX9_fault 24 = .ok (.goto 4, 3) := by decide +kernel
theorem dX9_fault_27 : decode cX9_fault 27 = .ok (.iconst (-1), 1) := by decide +kernel
theorem dX9_fault_28 : decode cX9_fault 28 = .ok (.ireturn, 1) := by decide +kernel
def uX9_fault : List Cond := .code yX9_fault cX9_fault 2 (some .int) :: ([.fieldLink RX9 28 "LuckyTicket" "reader" "LLuckyTicket$Reader;"] ++ wsX90 ++ wsX10)
theorem iX9_fault_X9 : ∀ w ∈ wsX90, w ∈ uX9_fault := fun _ h => List.mem_cons_of_mem _ (List.mem_append_left _ (List.mem_append_right _ h))
theorem iX9_fault_X1 : ∀ w ∈ wsX10, w ∈ uX9_fault := fun _ h => List.mem_cons_of_mem _ (List.mem_append_right _ h)
set_option maxHeartbeats 4000000 in
set_option maxRecDepth 100000 in
theorem kX9_fault (l : Launch) (dC : Nat → ClassId) (dI : Nat → Nat → Nat) (h0 : Nat) (tp : Nat) (sc : Nat) (rd : Nat) (cu : Nat) (im : Nat) (ig : Nat) (sl : Nat) (se : Nat) (su : Nat) (fc : Nat) (a1 : Int32) : Met l yX9_fault uX9_fault ({ frames := 0, cells := 0, slots := 0, locals := 0 }) (va_Pc [.ref h0, .int a1] (pw (dC, dI) vwCl [(h0, .inr (7, [.ref tp, .ref sc, .ref rd, .ref cu, .ref im, .ref ig, .ref sl, .ref se, .ref su, .ref fc])), (rd, .inr (0, [.ref tp, .ref sc, .int 0, .int (-1), .int 0, .int 0, .int 0, .int 0, .int 0]))] [])) (vp_Si (fun r => r = fz a1)) 0 0 (fun _ => False) := by
  refine Met.ofW (cc := cX9_fault) (maxL := 2) (ret := (some .int)) (by decide) rfl ?_
  intro p e s m args below meth c s₁ B hml hv
  obtain ⟨rfl, hP, hK, hN⟩ := hv
  have hx := B.exec
  have hb := B.bytes
  have hr := B.returns
  have hts := atoms_spec (ws := uX9_fault) B.pre
  have hown : s.vm.findClass RX9 = some m.cls := findClass_of_methodNamed B.named
  have hlocks := B.notSynchronized
  have hl := lv_entry ([.ref h0, .int a1]) (n := 2) (Nat.le_of_ble_eq_true rfl)
  rw [lg_entry_eq]
  generalize (lg_sl ([.ref h0, .int a1]) ++ List.replicate (2 - (lg_sl ([.ref h0, .int a1])).length) Slot.unset).toArray = ls at hl ⊢
  have hl : lv_has ls 2 [(0, .ref h0), (1, .int a1)] := hl
  refine lv_iload_n hx hb dX9_fault_0 rfl (lv_at hl 1 rfl) ?_
  refine lv_if_ne (tgt := 12) hx hb dX9_fault_1 (by decide) (fun c_1 => ?_) (fun c_1 => ?_)
  ·
    refine lv_iload_n hx hb dX9_fault_12 rfl (lv_at hl 1 rfl) ?_
    refine lv_iconst (v := 1) hx hb dX9_fault_13 (by decide) ?_
    refine lv_icmp_ne (tgt := 27) hx hb dX9_fault_14 (by decide) (fun c_2 => ?_) (fun c_2 => ?_)
    ·
      refine lv_iconst (v := (-1)) hx hb dX9_fault_27 (by decide) ?_
      exact W.iret (v := (-1)) hx hb hr (fun t ht hW => ⟨(-1), rfl, fz_n c_1, ht⟩) t_nil dX9_fault_28
    ·
      refine lv_aload_n hx hb dX9_fault_17 rfl (lv_at hl 0 rfl) ?_
      refine va_get (D := (dC, dI)) (ci := 7) (v := .ref rd) (C := RX9) (T := TX9) (N := 10) hx hb hts iX9_fault_X9 hown hK hP 0 rfl rfl 2 (by decide) (hts (.fieldLink RX9 28 "LuckyTicket" "reader" "LLuckyTicket$Reader;") (List.mem_of_getElem? (i := 1) rfl)) (fun _ h9 => h9) rfl dX9_fault_18 ?_
      refine va_getN (own := RX9) (index := 97) (ref := RX1) (host := RX9) (D := (dC, dI)) (ci := 0) (v := .int (-1)) (C := RX1) (T := TX1) (N := 9) hx hb hts iX9_fault_X1 hown hK hP 1 rfl rfl 3 (by decide) (va_Nw.use rfl (hN _ (List.mem_of_getElem? (i := 12) rfl))) (fun _ h9 => h9) rfl dX9_fault_21 ?_
      refine lv_goto (tgt := 28) hx hb dX9_fault_24 (by decide) ?_
      exact W.iret (v := (-1)) hx hb hr (fun t ht hW => ⟨(-1), rfl, fz_n c_1, ht⟩) t_nil dX9_fault_28
  ·
    refine lv_aload_n hx hb dX9_fault_4 rfl (lv_at hl 0 rfl) ?_
    refine va_get (D := (dC, dI)) (ci := 7) (v := .ref rd) (C := RX9) (T := TX9) (N := 10) hx hb hts iX9_fault_X9 hown hK hP 0 rfl rfl 2 (by decide) (hts (.fieldLink RX9 28 "LuckyTicket" "reader" "LLuckyTicket$Reader;") (List.mem_of_getElem? (i := 1) rfl)) (fun _ h9 => h9) rfl dX9_fault_5 ?_
    refine va_getN (own := RX9) (index := 87) (ref := RX1) (host := RX9) (D := (dC, dI)) (ci := 0) (v := .int 0) (C := RX1) (T := TX1) (N := 9) hx hb hts iX9_fault_X1 hown hK hP 1 rfl rfl 2 (by decide) (va_Nw.use rfl (hN _ (List.mem_of_getElem? (i := 11) rfl))) (fun _ h9 => h9) rfl dX9_fault_8 ?_
    exact W.iret (v := 0) hx hb hr (fun t ht hW => ⟨0, rfl, fz_z c_1, ht⟩) t_nil dX9_fault_11
theorem dX10_fault_0 : decode cX10_fault 0 = .ok (.iload_n 1, 1) := by decide +kernel
theorem dX10_fault_1 : decode cX10_fault 1 = .ok (.ifCond .ne 10, 3) := by decide +kernel
theorem dX10_fault_4 : decode cX10_fault 4 = .ok (.aload_n 0, 1) := by decide +kernel
theorem dX10_fault_5 : decode cX10_fault 5 = .ok (.getfield 134, 3) := by decide +kernel
theorem dX10_fault_8 : decode cX10_fault 8 = .ok (.goto 16, 3) := by decide +kernel
theorem dX10_fault_11 : decode cX10_fault 11 = .ok (.iload_n 1, 1) := by decide +kernel
theorem dX10_fault_12 : decode cX10_fault 12 = .ok (.iconst 1, 1) := by decide +kernel
theorem dX10_fault_13 : decode cX10_fault 13 = .ok (.if_icmp .ne 10, 3) := by decide +kernel
theorem dX10_fault_16 : decode cX10_fault 16 = .ok (.aload_n 0, 1) := by decide +kernel
theorem dX10_fault_17 : decode cX10_fault 17 = .ok (.getfield 30, 3) := by decide +kernel
theorem dX10_fault_20 : decode cX10_fault 20 = .ok (.goto 4, 3) := by decide +kernel
theorem dX10_fault_23 : decode cX10_fault 23 = .ok (.iconst (-1), 1) := by decide +kernel
theorem dX10_fault_24 : decode cX10_fault 24 = .ok (.ireturn, 1) := by decide +kernel
def uX10_fault : List Cond := .code yX10_fault cX10_fault 2 (some .int) :: ([.fieldLink RX10 30 "LuckyTicketModel" "faultPlace" "I", .fieldLink RX10 134 "LuckyTicketModel" "faultKind" "I"] ++ wsX100)
theorem iX10_fault_X10 : ∀ w ∈ wsX100, w ∈ uX10_fault := fun _ h => List.mem_cons_of_mem _ (List.mem_append_right _ h)
set_option maxHeartbeats 4000000 in
set_option maxRecDepth 100000 in
theorem kX10_fault (l : Launch) (dC : Nat → ClassId) (dI : Nat → Nat → Nat) (h0 : Nat) (m_world : Nat) (m_images : Nat) (m_hasImage : Nat) (m_luck : Nat) (m_tape : Nat) (m_five : Nat) (m_fresh : Nat) (m_waits : Nat) (m_figures : Nat) (m_pile : Nat) (m_times : Nat) (m_far : Nat) (m_queue : Nat) (m_months : Nat) (m_ways : Nat) (m_waysOn : Nat) (m_many : Nat) (m_width : Nat) (m_numbers : Nat) (m_moving : Nat) (a1 : Int32) : Met l yX10_fault uX10_fault ({ frames := 0, cells := 0, slots := 0, locals := 0 }) (va_Pc [.ref h0, .int a1] (pw (dC, dI) vwCl [(h0, .inr (8, [.int 0, .ref m_world, .ref m_images, .ref m_hasImage, .ref m_luck, .ref m_tape, .int 0, .ref m_five, .int 0, .int 0, .int 0, .int 0, .int 0, .int 0, .int (-1), .ref m_fresh, .ref m_waits, .int 0, .int 0, .int 0, .ref m_figures, .ref m_pile, .long 0, .ref m_times, .ref m_far, .ref m_queue, .ref m_months, .ref m_ways, .ref m_waysOn, .ref m_many, .ref m_width, .ref m_numbers, .ref m_moving]))] [])) (vp_Si (fun r => r = fz a1)) 0 0 (fun _ => False) := by
  refine Met.ofW (cc := cX10_fault) (maxL := 2) (ret := (some .int)) (by decide) rfl ?_
  intro p e s m args below meth c s₁ B hml hv
  obtain ⟨rfl, hP, hK, hN⟩ := hv
  have hx := B.exec
  have hb := B.bytes
  have hr := B.returns
  have hts := atoms_spec (ws := uX10_fault) B.pre
  have hown : s.vm.findClass RX10 = some m.cls := findClass_of_methodNamed B.named
  have hlocks := B.notSynchronized
  have hl := lv_entry ([.ref h0, .int a1]) (n := 2) (Nat.le_of_ble_eq_true rfl)
  rw [lg_entry_eq]
  generalize (lg_sl ([.ref h0, .int a1]) ++ List.replicate (2 - (lg_sl ([.ref h0, .int a1])).length) Slot.unset).toArray = ls at hl ⊢
  have hl : lv_has ls 2 [(0, .ref h0), (1, .int a1)] := hl
  refine lv_iload_n hx hb dX10_fault_0 rfl (lv_at hl 1 rfl) ?_
  refine lv_if_ne (tgt := 11) hx hb dX10_fault_1 (by decide) (fun c_1 => ?_) (fun c_1 => ?_)
  ·
    refine lv_iload_n hx hb dX10_fault_11 rfl (lv_at hl 1 rfl) ?_
    refine lv_iconst (v := 1) hx hb dX10_fault_12 (by decide) ?_
    refine lv_icmp_ne (tgt := 23) hx hb dX10_fault_13 (by decide) (fun c_2 => ?_) (fun c_2 => ?_)
    ·
      refine lv_iconst (v := (-1)) hx hb dX10_fault_23 (by decide) ?_
      exact W.iret (v := (-1)) hx hb hr (fun t ht hW => ⟨(-1), rfl, fz_n c_1, ht⟩) t_nil dX10_fault_24
    ·
      refine lv_aload_n hx hb dX10_fault_16 rfl (lv_at hl 0 rfl) ?_
      refine va_get (D := (dC, dI)) (ci := 8) (v := .int (-1)) (C := RX10) (T := TX10) (N := 33) hx hb hts iX10_fault_X10 hown hK hP 0 rfl rfl 14 (by decide) (hts (.fieldLink RX10 30 "LuckyTicketModel" "faultPlace" "I") (List.mem_of_getElem? (i := 1) rfl)) (fun _ h9 => h9) rfl dX10_fault_17 ?_
      refine lv_goto (tgt := 24) hx hb dX10_fault_20 (by decide) ?_
      exact W.iret (v := (-1)) hx hb hr (fun t ht hW => ⟨(-1), rfl, fz_n c_1, ht⟩) t_nil dX10_fault_24
  ·
    refine lv_aload_n hx hb dX10_fault_4 rfl (lv_at hl 0 rfl) ?_
    refine va_get (D := (dC, dI)) (ci := 8) (v := .int 0) (C := RX10) (T := TX10) (N := 33) hx hb hts iX10_fault_X10 hown hK hP 0 rfl rfl 13 (by decide) (hts (.fieldLink RX10 134 "LuckyTicketModel" "faultKind" "I") (List.mem_of_getElem? (i := 2) rfl)) (fun _ h9 => h9) rfl dX10_fault_5 ?_
    refine lv_goto (tgt := 24) hx hb dX10_fault_8 (by decide) ?_
    exact W.iret (v := 0) hx hb hr (fun t ht hW => ⟨0, rfl, fz_z c_1, ht⟩) t_nil dX10_fault_24
theorem dX9_back_0 : decode cX9_back 0 = .ok (.iload_n 1, 1) := by decide +kernel
theorem dX9_back_1 : decode cX9_back 1 = .ok (.iconst 0, 1) := by decide +kernel
theorem dX9_back_2 : decode cX9_back 2 = .ok (.aload_n 0, 1) := by decide +kernel
theorem dX9_back_3 : decode cX9_back 3 = .ok (.getfield 39, 3) := by decide +kernel
theorem dX9_back_6 : decode cX9_back 6 = .ok (.arraylength, 1) := by decide +kernel
theorem dX9_back_7 : decode cX9_back 7 = .ok (.iconst 1, 1) := by decide +kernel
theorem dX9_back_8 : decode cX9_back 8 = .ok (.isub, 1) := by decide +kernel
theorem dX9_back_9 : decode cX9_back 9 = .ok (.invokestatic 158, 3) := by decide +kernel
theorem dX9_back_12 : decode cX9_back 12 = .ok (.ifCond .ne 6, 3) := by decide +kernel
theorem dX9_back_15 : decode cX9_back 15 = .ok (.bipush (-2), 2) := by decide +kernel
theorem dX9_back_17 : decode cX9_back 17 = .ok (.ireturn, 1) := by decide +kernel
theorem dX9_back_18 : decode cX9_back 18 = .ok (.aload_n 0, 1) := by decide +kernel
theorem dX9_back_19 : decode cX9_back 19 = .ok (.getfield 43, 3) := by decide +kernel
theorem dX9_back_22 : decode cX9_back 22 = .ok (.iload_n 1, 1) := by decide +kernel
theorem dX9_back_23 : decode cX9_back 23 = .ok (.baload, 1) := by decide +kernel
theorem dX9_back_24 : decode cX9_back 24 = .ok (.ifCond .ne 6, 3) := by decide +kernel
theorem dX9_back_27 : decode cX9_back 27 = .ok (.bipush (-6), 2) := by decide +kernel
theorem dX9_back_29 : decode cX9_back 29 = .ok (.ireturn, 1) := by decide +kernel
def uX9_back : List Cond := .code yX9_back cX9_back 2 (some .int) :: ([.fieldLink RX9 39 "LuckyTicket" "images" "[LLuckyTicket$Roll;", .methodLink RX9 158 yX9_isWithin, .static yX9_isWithin, .initialized RX9, .code yX9_isWithin cX9_isWithin 3 (some .boolean), .fieldLink RX9 43 "LuckyTicket" "imaged" "[Z"] ++ wsX90)
theorem iX9_back_X9 : ∀ w ∈ wsX90, w ∈ uX9_back := fun _ h => List.mem_cons_of_mem _ (List.mem_append_right _ h)
set_option maxRecDepth 20000 in
theorem gX9_back__X9_isWithin_S158 : GoodIn uX9_back (va_wsS RX9 158 yX9_isWithin uX9_isWithin) := goodIn_p _ [5] rfl (by decide +kernel)
set_option maxHeartbeats 4000000 in
set_option maxRecDepth 100000 in
theorem kX9_back (l : Launch) (dC : Nat → ClassId) (dI : Nat → Nat → Nat) (h0 : Nat) (tp : Nat) (sc : Nat) (rd : Nat) (cu : Nat) (im : Nat) (ig : Nat) (sl : Nat) (se : Nat) (su : Nat) (fc : Nat) (cR : ClassId) (cZ : ClassId) (i0 : Nat) (i1 : Nat) (i2 : Nat) (a1 : Int32) : Met l yX9_back uX9_back ({ frames := 1, cells := 0, slots := 0, locals := 22 }) (va_Pc [.ref h0, .int a1] (pw (dC, dI) vwCl [(h0, .inr (7, [.ref tp, .ref sc, .ref rd, .ref cu, .ref im, .ref ig, .ref sl, .ref se, .ref su, .ref fc])), (im, .inl (cR, 3, .inr (.inr (.inr (.inr (sf3 i0 i1 i2)))))), (ig, .inl (cZ, 3, .inl (fun _ => 0)))] [(cR, .object RX2), (cZ, .boolean)])) (vp_Si (fun r => r = b2 a1)) 0 0 (fun _ => False) := by
  refine Met.ofW (cc := cX9_back) (maxL := 2) (ret := (some .int)) (by decide) rfl ?_
  intro p e s m args below meth c s₁ B hml hv
  obtain ⟨rfl, hP, hK, hN⟩ := hv
  have hx := B.exec
  have hb := B.bytes
  have hr := B.returns
  have hts := atoms_spec (ws := uX9_back) B.pre
  have hown : s.vm.findClass RX9 = some m.cls := findClass_of_methodNamed B.named
  have hlocks := B.notSynchronized
  have hl := lv_entry ([.ref h0, .int a1]) (n := 2) (Nat.le_of_ble_eq_true rfl)
  rw [lg_entry_eq]
  generalize (lg_sl ([.ref h0, .int a1]) ++ List.replicate (2 - (lg_sl ([.ref h0, .int a1])).length) Slot.unset).toArray = ls at hl ⊢
  have hl : lv_has ls 2 [(0, .ref h0), (1, .int a1)] := hl
  refine lv_iload_n hx hb dX9_back_0 rfl (lv_at hl 1 rfl) ?_
  refine lv_iconst (v := 0) hx hb dX9_back_1 (by decide) ?_
  refine lv_aload_n hx hb dX9_back_2 rfl (lv_at hl 0 rfl) ?_
  refine va_get (D := (dC, dI)) (ci := 7) (v := .ref im) (C := RX9) (T := TX9) (N := 10) hx hb hts iX9_back_X9 hown hK hP 0 rfl rfl 4 (by decide) (hts (.fieldLink RX9 39 "LuckyTicket" "images" "[LLuckyTicket$Roll;") (List.mem_of_getElem? (i := 1) rfl)) (fun _ h9 => h9) rfl dX9_back_3 ?_
  refine va_alen (v := 3) hx hb hK hP 1 0 rfl rfl (by rfl) dX9_back_6 ?_
  refine lv_iconst (v := 1) hx hb dX9_back_7 (by decide) ?_
  refine lv_isub hx hb dX9_back_8 ?_
  refine lv_topi (fun z_1 ez_1 => ?_)
  obtain rfl : z_1 = 2 := ez_1.trans (by decide)
  refine vp_callSi (W.runS (As := [.int a1, .int 0, .int 2]) (rest := []) ⟨hx, hb, hml, hown, hts⟩ (kX9_isWithin l dC dI a1 0 2) (va_cwS 3 hts gX9_back__X9_isWithin_S158 rfl rfl rfl (by decide +kernel) ⟨lel 1 1 rfl, lel 22 22 rfl⟩) ⟨pn_fb, pn_use⟩ rfl rfl hl.1 rfl (lv_room (Nat.le_of_ble_eq_true rfl)) dX9_back_9 ⟨lel 0 0 rfl, lel 0 0 rfl⟩) (fun r_2 hr_2 => ?_)
  refine lv_if_ne (tgt := 18) hx hb dX9_back_12 (by decide) (fun c_3 => ?_) (fun c_3 => ?_)
  ·
    rcases wi_3 (fun e => c_3 (hr_2.trans e)) with rfl | rfl | rfl
    ·
      refine lv_aload_n hx hb dX9_back_18 rfl (lv_at hl 0 rfl) ?_
      refine va_get (D := (dC, dI)) (ci := 7) (v := .ref ig) (C := RX9) (T := TX9) (N := 10) hx hb hts iX9_back_X9 hown hK hP 0 rfl rfl 5 (by decide) (hts (.fieldLink RX9 43 "LuckyTicket" "imaged" "[Z") (List.mem_of_getElem? (i := 6) rfl)) (fun _ h9 => h9) rfl dX9_back_19 ?_
      refine lv_iload_n hx hb dX9_back_22 rfl (lv_at hl 1 rfl) ?_
      refine va_zald hx hb hK hP 2 1 rfl rfl (vp_in_lit (by decide)) dX9_back_23 ?_
      refine lv_topi (fun z_4 ez_4 => ?_)
      obtain rfl : z_4 = 0 := ez_4
      refine lv_if_ne (tgt := 30) hx hb dX9_back_24 (by decide) (fun c_5 => absurd c_5 (by decide)) (fun _ => ?_)
      refine lv_bipush (v := (-6)) hx hb dX9_back_27 (by decide) ?_
      exact W.iret (v := (-6)) hx hb hr (fun t ht hW => ⟨(-6), rfl, (by decide), ht⟩) t_nil dX9_back_29
    ·
      refine lv_aload_n hx hb dX9_back_18 rfl (lv_at hl 0 rfl) ?_
      refine va_get (D := (dC, dI)) (ci := 7) (v := .ref ig) (C := RX9) (T := TX9) (N := 10) hx hb hts iX9_back_X9 hown hK hP 0 rfl rfl 5 (by decide) (hts (.fieldLink RX9 43 "LuckyTicket" "imaged" "[Z") (List.mem_of_getElem? (i := 6) rfl)) (fun _ h9 => h9) rfl dX9_back_19 ?_
      refine lv_iload_n hx hb dX9_back_22 rfl (lv_at hl 1 rfl) ?_
      refine va_zald hx hb hK hP 2 1 rfl rfl (vp_in_lit (by decide)) dX9_back_23 ?_
      refine lv_topi (fun z_6 ez_6 => ?_)
      obtain rfl : z_6 = 0 := ez_6
      refine lv_if_ne (tgt := 30) hx hb dX9_back_24 (by decide) (fun c_7 => absurd c_7 (by decide)) (fun _ => ?_)
      refine lv_bipush (v := (-6)) hx hb dX9_back_27 (by decide) ?_
      exact W.iret (v := (-6)) hx hb hr (fun t ht hW => ⟨(-6), rfl, (by decide), ht⟩) t_nil dX9_back_29
    ·
      refine lv_aload_n hx hb dX9_back_18 rfl (lv_at hl 0 rfl) ?_
      refine va_get (D := (dC, dI)) (ci := 7) (v := .ref ig) (C := RX9) (T := TX9) (N := 10) hx hb hts iX9_back_X9 hown hK hP 0 rfl rfl 5 (by decide) (hts (.fieldLink RX9 43 "LuckyTicket" "imaged" "[Z") (List.mem_of_getElem? (i := 6) rfl)) (fun _ h9 => h9) rfl dX9_back_19 ?_
      refine lv_iload_n hx hb dX9_back_22 rfl (lv_at hl 1 rfl) ?_
      refine va_zald hx hb hK hP 2 1 rfl rfl (vp_in_lit (by decide)) dX9_back_23 ?_
      refine lv_topi (fun z_8 ez_8 => ?_)
      obtain rfl : z_8 = 0 := ez_8
      refine lv_if_ne (tgt := 30) hx hb dX9_back_24 (by decide) (fun c_9 => absurd c_9 (by decide)) (fun _ => ?_)
      refine lv_bipush (v := (-6)) hx hb dX9_back_27 (by decide) ?_
      exact W.iret (v := (-6)) hx hb hr (fun t ht hW => ⟨(-6), rfl, (by decide), ht⟩) t_nil dX9_back_29
  ·
    refine lv_bipush (v := (-2)) hx hb dX9_back_15 (by decide) ?_
    exact W.iret (v := (-2)) hx hb hr (fun t ht hW => ⟨(-2), rfl, (if_pos (hr_2.symm.trans c_3)).symm, ht⟩) t_nil dX9_back_17
theorem dX10_back_0 : decode cX10_back 0 = .ok (.iload_n 1, 1) := by decide +kernel
theorem dX10_back_1 : decode cX10_back 1 = .ok (.i2l, 1) := by decide +kernel
theorem dX10_back_2 : decode cX10_back 2 = .ok (.lconst 0, 1) := by decide +kernel
theorem dX10_back_3 : decode cX10_back 3 = .ok (.ldc2_w 80, 3) := by decide +kernel
theorem dX10_back_6 : decode cX10_back 6 = .ok (.invokestatic 82, 3) := by decide +kernel
theorem dX10_back_9 : decode cX10_back 9 = .ok (.ifCond .ne 6, 3) := by decide +kernel
theorem dX10_back_12 : decode cX10_back 12 = .ok (.bipush (-2), 2) := by decide +kernel
theorem dX10_back_14 : decode cX10_back 14 = .ok (.ireturn, 1) := by decide +kernel
theorem dX10_back_15 : decode cX10_back 15 = .ok (.aload_n 0, 1) := by decide +kernel
theorem dX10_back_16 : decode cX10_back 16 = .ok (.getfield 16, 3) := by decide +kernel
theorem dX10_back_19 : decode cX10_back 19 = .ok (.iload_n 1, 1) := by decide +kernel
theorem dX10_back_20 : decode cX10_back 20 = .ok (.baload, 1) := by decide +kernel
theorem dX10_back_21 : decode cX10_back 21 = .ok (.ifCond .ne 6, 3) := by decide +kernel
theorem dX10_back_24 : decode cX10_back 24 = .ok (.bipush (-6), 2) := by decide +kernel
theorem dX10_back_26 : decode cX10_back 26 = .ok (.ireturn, 1) := by decide +kernel
def uX10_back : List Cond := .code yX10_back cX10_back 3 (some .int) :: ([.constantLong RX10 80 (2), .methodLink RX10 82 yX10_in, .static yX10_in, .initialized RX10, .code yX10_in cX10_in 6 (some .boolean), .fieldLink RX10 16 "LuckyTicketModel" "hasImage" "[Z"] ++ wsX100)
theorem iX10_back_X10 : ∀ w ∈ wsX100, w ∈ uX10_back := fun _ h => List.mem_cons_of_mem _ (List.mem_append_right _ h)
set_option maxRecDepth 20000 in
theorem gX10_back__X10_in_S82 : GoodIn uX10_back (va_wsS RX10 82 yX10_in uX10_in) := goodIn_p _ [5] rfl (by decide +kernel)
set_option maxHeartbeats 4000000 in
set_option maxRecDepth 100000 in
theorem kX10_back (l : Launch) (dC : Nat → ClassId) (dI : Nat → Nat → Nat) (h0 : Nat) (m_world : Nat) (m_images : Nat) (m_hasImage : Nat) (m_luck : Nat) (m_tape : Nat) (m_five : Nat) (m_fresh : Nat) (m_waits : Nat) (m_figures : Nat) (m_pile : Nat) (m_times : Nat) (m_far : Nat) (m_queue : Nat) (m_months : Nat) (m_ways : Nat) (m_waysOn : Nat) (m_many : Nat) (m_width : Nat) (m_numbers : Nat) (m_moving : Nat) (cZ : ClassId) (a1 : Int32) : Met l yX10_back uX10_back ({ frames := 1, cells := 0, slots := 0, locals := 25 }) (va_Pc [.ref h0, .int a1] (pw (dC, dI) vwCl [(h0, .inr (8, [.int 0, .ref m_world, .ref m_images, .ref m_hasImage, .ref m_luck, .ref m_tape, .int 0, .ref m_five, .int 0, .int 0, .int 0, .int 0, .int 0, .int 0, .int (-1), .ref m_fresh, .ref m_waits, .int 0, .int 0, .int 0, .ref m_figures, .ref m_pile, .long 0, .ref m_times, .ref m_far, .ref m_queue, .ref m_months, .ref m_ways, .ref m_waysOn, .ref m_many, .ref m_width, .ref m_numbers, .ref m_moving])), (m_hasImage, .inl (cZ, 3, .inl (fun _ => 0)))] [(cZ, .boolean)])) (vp_Si (fun r => r = b2 a1)) 0 0 (fun _ => False) := by
  refine Met.ofW (cc := cX10_back) (maxL := 3) (ret := (some .int)) (by decide) rfl ?_
  intro p e s m args below meth c s₁ B hml hv
  obtain ⟨rfl, hP, hK, hN⟩ := hv
  have hx := B.exec
  have hb := B.bytes
  have hr := B.returns
  have hts := atoms_spec (ws := uX10_back) B.pre
  have hown : s.vm.findClass RX10 = some m.cls := findClass_of_methodNamed B.named
  have hlocks := B.notSynchronized
  have hl := lv_entry ([.ref h0, .int a1]) (n := 3) (Nat.le_of_ble_eq_true rfl)
  rw [lg_entry_eq]
  generalize (lg_sl ([.ref h0, .int a1]) ++ List.replicate (3 - (lg_sl ([.ref h0, .int a1])).length) Slot.unset).toArray = ls at hl ⊢
  have hl : lv_has ls 3 [(0, .ref h0), (1, .int a1)] := hl
  refine lv_iload_n hx hb dX10_back_0 rfl (lv_at hl 1 rfl) ?_
  refine lv_i2l (v := a1.toInt64) hx hb dX10_back_1 rfl ?_
  refine lv_lconst (v := 0) hx hb dX10_back_2 (by decide) ?_
  refine lv_ldc2 (v := 2) hx hb hown (hts (.constantLong RX10 80 (2)) (List.mem_of_getElem? (i := 1) rfl)) dX10_back_3 ?_
  refine vp_callSi (W.runS (As := [.long a1.toInt64, .long 0, .long 2]) (rest := []) ⟨hx, hb, hml, hown, hts⟩ (kX10_in l dC dI a1.toInt64 0 2) (va_cwS 3 hts gX10_back__X10_in_S82 rfl rfl rfl (by decide +kernel) ⟨lel 1 1 rfl, lel 25 25 rfl⟩) ⟨pn_fb, pn_use⟩ rfl rfl hl.1 rfl (lv_room (Nat.le_of_ble_eq_true rfl)) dX10_back_6 ⟨lel 0 0 rfl, lel 0 0 rfl⟩) (fun r_1 hr_1 => ?_)
  refine lv_if_ne (tgt := 15) hx hb dX10_back_9 (by decide) (fun c_2 => ?_) (fun c_2 => ?_)
  ·
    rcases wi_3 (fun e => c_2 (hr_1.trans ((inr_wi a1 0 2).trans e))) with rfl | rfl | rfl
    ·
      refine lv_aload_n hx hb dX10_back_15 rfl (lv_at hl 0 rfl) ?_
      refine va_get (D := (dC, dI)) (ci := 8) (v := .ref m_hasImage) (C := RX10) (T := TX10) (N := 33) hx hb hts iX10_back_X10 hown hK hP 0 rfl rfl 3 (by decide) (hts (.fieldLink RX10 16 "LuckyTicketModel" "hasImage" "[Z") (List.mem_of_getElem? (i := 6) rfl)) (fun _ h9 => h9) rfl dX10_back_16 ?_
      refine lv_iload_n hx hb dX10_back_19 rfl (lv_at hl 1 rfl) ?_
      refine va_zald hx hb hK hP 1 0 rfl rfl (vp_in_lit (by decide)) dX10_back_20 ?_
      refine lv_topi (fun z_3 ez_3 => ?_)
      obtain rfl : z_3 = 0 := ez_3
      refine lv_if_ne (tgt := 27) hx hb dX10_back_21 (by decide) (fun c_4 => absurd c_4 (by decide)) (fun _ => ?_)
      refine lv_bipush (v := (-6)) hx hb dX10_back_24 (by decide) ?_
      exact W.iret (v := (-6)) hx hb hr (fun t ht hW => ⟨(-6), rfl, (by decide), ht⟩) t_nil dX10_back_26
    ·
      refine lv_aload_n hx hb dX10_back_15 rfl (lv_at hl 0 rfl) ?_
      refine va_get (D := (dC, dI)) (ci := 8) (v := .ref m_hasImage) (C := RX10) (T := TX10) (N := 33) hx hb hts iX10_back_X10 hown hK hP 0 rfl rfl 3 (by decide) (hts (.fieldLink RX10 16 "LuckyTicketModel" "hasImage" "[Z") (List.mem_of_getElem? (i := 6) rfl)) (fun _ h9 => h9) rfl dX10_back_16 ?_
      refine lv_iload_n hx hb dX10_back_19 rfl (lv_at hl 1 rfl) ?_
      refine va_zald hx hb hK hP 1 0 rfl rfl (vp_in_lit (by decide)) dX10_back_20 ?_
      refine lv_topi (fun z_5 ez_5 => ?_)
      obtain rfl : z_5 = 0 := ez_5
      refine lv_if_ne (tgt := 27) hx hb dX10_back_21 (by decide) (fun c_6 => absurd c_6 (by decide)) (fun _ => ?_)
      refine lv_bipush (v := (-6)) hx hb dX10_back_24 (by decide) ?_
      exact W.iret (v := (-6)) hx hb hr (fun t ht hW => ⟨(-6), rfl, (by decide), ht⟩) t_nil dX10_back_26
    ·
      refine lv_aload_n hx hb dX10_back_15 rfl (lv_at hl 0 rfl) ?_
      refine va_get (D := (dC, dI)) (ci := 8) (v := .ref m_hasImage) (C := RX10) (T := TX10) (N := 33) hx hb hts iX10_back_X10 hown hK hP 0 rfl rfl 3 (by decide) (hts (.fieldLink RX10 16 "LuckyTicketModel" "hasImage" "[Z") (List.mem_of_getElem? (i := 6) rfl)) (fun _ h9 => h9) rfl dX10_back_16 ?_
      refine lv_iload_n hx hb dX10_back_19 rfl (lv_at hl 1 rfl) ?_
      refine va_zald hx hb hK hP 1 0 rfl rfl (vp_in_lit (by decide)) dX10_back_20 ?_
      refine lv_topi (fun z_7 ez_7 => ?_)
      obtain rfl : z_7 = 0 := ez_7
      refine lv_if_ne (tgt := 27) hx hb dX10_back_21 (by decide) (fun c_8 => absurd c_8 (by decide)) (fun _ => ?_)
      refine lv_bipush (v := (-6)) hx hb dX10_back_24 (by decide) ?_
      exact W.iret (v := (-6)) hx hb hr (fun t ht hW => ⟨(-6), rfl, (by decide), ht⟩) t_nil dX10_back_26
  ·
    refine lv_bipush (v := (-2)) hx hb dX10_back_12 (by decide) ?_
    exact W.iret (v := (-2)) hx hb hr (fun t ht hW => ⟨(-2), rfl, (if_pos ((inr_wi a1 0 2).symm.trans (hr_1.symm.trans c_2))).symm, ht⟩) t_nil dX10_back_14
theorem dX3_stands_0 : decode cX3_stands 0 = .ok (.aload_n 0, 1) := by decide +kernel
theorem dX3_stands_1 : decode cX3_stands 1 = .ok (.getfield 9, 3) := by decide +kernel
theorem dX3_stands_4 : decode cX3_stands 4 = .ok (.iconst (-1), 1) := by decide +kernel
theorem dX3_stands_5 : decode cX3_stands 5 = .ok (.if_icmp .eq 7, 3) := by decide +kernel
theorem dX3_stands_12 : decode cX3_stands 12 = .ok (.iconst 0, 1) := by decide +kernel
theorem dX3_stands_13 : decode cX3_stands 13 = .ok (.ireturn, 1) := by decide +kernel
def uX3_stands : List Cond := .code yX3_stands cX3_stands 1 (some .boolean) :: ([.fieldLink RX3 9 "LuckyTicket$Row" "width" "I"] ++ wsX30)
theorem iX3_stands_X3 : ∀ w ∈ wsX30, w ∈ uX3_stands := fun _ h => List.mem_cons_of_mem _ (List.mem_append_right _ h)
set_option maxHeartbeats 4000000 in
set_option maxRecDepth 100000 in
theorem kX3_stands (l : Launch) (dC : Nat → ClassId) (dI : Nat → Nat → Nat) (q0 : Nat) (nn : Nat) : Met l yX3_stands uX3_stands ({ frames := 0, cells := 0, slots := 0, locals := 0 }) (va_Pc [.ref q0] (pw (dC, dI) vwCl [(q0, .inr (2, [.int (-1), .int 0, .ref nn]))] [])) (vp_Si (fun r => r = 0)) 0 0 (fun _ => False) := by
  refine Met.ofW (cc := cX3_stands) (maxL := 1) (ret := (some .boolean)) (by decide) rfl ?_
  intro p e s m args below meth c s₁ B hml hv
  obtain ⟨rfl, hP, hK, hN⟩ := hv
  have hx := B.exec
  have hb := B.bytes
  have hr := B.returns
  have hts := atoms_spec (ws := uX3_stands) B.pre
  have hown : s.vm.findClass RX3 = some m.cls := findClass_of_methodNamed B.named
  have hlocks := B.notSynchronized
  have hl := lv_entry ([.ref q0]) (n := 1) (Nat.le_of_ble_eq_true rfl)
  rw [lg_entry_eq]
  generalize (lg_sl ([.ref q0]) ++ List.replicate (1 - (lg_sl ([.ref q0])).length) Slot.unset).toArray = ls at hl ⊢
  have hl : lv_has ls 1 [(0, .ref q0)] := hl
  refine lv_aload_n hx hb dX3_stands_0 rfl (lv_at hl 0 rfl) ?_
  refine va_get (D := (dC, dI)) (ci := 2) (v := .int (-1)) (C := RX3) (T := TX3) (N := 3) hx hb hts iX3_stands_X3 hown hK hP 0 rfl rfl 0 (by decide) (hts (.fieldLink RX3 9 "LuckyTicket$Row" "width" "I") (List.mem_of_getElem? (i := 1) rfl)) (fun _ h9 => h9) rfl dX3_stands_1 ?_
  refine lv_iconst (v := (-1)) hx hb dX3_stands_4 (by decide) ?_
  refine lv_icmp_eq (tgt := 12) hx hb dX3_stands_5 (by decide) (fun _ => ?_) (fun c_1 => absurd c_1 (by decide))
  refine lv_iconst (v := 0) hx hb dX3_stands_12 (by decide) ?_
  exact W.zret (v := 0) hx hb hr rfl (fun t ht hW => ⟨0, rfl, rfl, ht⟩) t_nil dX3_stands_13
theorem dX9_write_0 : decode cX9_write 0 = .ok (.aload_n 0, 1) := by decide +kernel
theorem dX9_write_1 : decode cX9_write 1 = .ok (.iload_n 1, 1) := by decide +kernel
theorem dX9_write_2 : decode cX9_write 2 = .ok (.invokevirtual 206, 3) := by decide +kernel
theorem dX9_write_5 : decode cX9_write 5 = .ok (.ifCond .ne 6, 3) := by decide +kernel
theorem dX9_write_8 : decode cX9_write 8 = .ok (.bipush (-2), 2) := by decide +kernel
theorem dX9_write_10 : decode cX9_write 10 = .ok (.ireturn, 1) := by decide +kernel
theorem dX9_write_11 : decode cX9_write 11 = .ok (.aload_n 0, 1) := by decide +kernel
theorem dX9_write_12 : decode cX9_write 12 = .ok (.getfield 50, 3) := by decide +kernel
theorem dX9_write_15 : decode cX9_write 15 = .ok (.iload_n 1, 1) := by decide +kernel
theorem dX9_write_16 : decode cX9_write 16 = .ok (.aaload, 1) := by decide +kernel
theorem dX9_write_17 : decode cX9_write 17 = .ok (.astore 5, 2) := by decide +kernel
theorem dX9_write_19 : decode cX9_write 19 = .ok (.aload 5, 2) := by decide +kernel
theorem dX9_write_21 : decode cX9_write 21 = .ok (.invokevirtual 270, 3) := by decide +kernel
theorem dX9_write_24 : decode cX9_write 24 = .ok (.ifCond .ne 6, 3) := by decide +kernel
theorem dX9_write_27 : decode cX9_write 27 = .ok (.bipush (-6), 2) := by decide +kernel
theorem dX9_write_29 : decode cX9_write 29 = .ok (.ireturn, 1) := by decide +kernel
def uX9_write : List Cond := .code yX9_write cX9_write 6 (some .int) :: ([.methodLink RX9 206 yX9_hasSlot, .instanceMethod yX9_hasSlot, .selects RX9 yX9_hasSlot yX9_hasSlot, .initialized RX9, .code yX9_hasSlot cX9_hasSlot 2 (some .boolean), .fieldLink RX9 50 "LuckyTicket" "slots" "[LLuckyTicket$Row;", .methodLink RX9 158 yX9_isWithin, .static yX9_isWithin, .code yX9_isWithin cX9_isWithin 3 (some .boolean), .methodLink RX9 270 yX3_stands, .instanceMethod yX3_stands, .selects RX3 yX3_stands yX3_stands, .initialized RX3, .code yX3_stands cX3_stands 1 (some .boolean), .fieldLink RX3 9 "LuckyTicket$Row" "width" "I"] ++ wsX90 ++ wsX30)
theorem iX9_write_X9 : ∀ w ∈ wsX90, w ∈ uX9_write := fun _ h => List.mem_cons_of_mem _ (List.mem_append_left _ (List.mem_append_right _ h))
theorem iX9_write_X3 : ∀ w ∈ wsX30, w ∈ uX9_write := fun _ h => List.mem_cons_of_mem _ (List.mem_append_right _ h)
set_option maxRecDepth 20000 in
theorem gX9_write__X9_hasSlot_V206 : GoodIn uX9_write (wsV RX9 206 RX9 yX9_hasSlot uX9_hasSlot) := goodIn_p _ [5, 9] rfl (by decide +kernel)
set_option maxRecDepth 20000 in
theorem gX9_write__X3_stands_V270 : GoodIn uX9_write (wsV RX9 270 RX3 yX3_stands uX3_stands) := goodIn_p _ [14] rfl (by decide +kernel)
set_option maxHeartbeats 4000000 in
set_option maxRecDepth 100000 in
theorem kX9_write (l : Launch) (dC : Nat → ClassId) (dI : Nat → Nat → Nat) (h0 : Nat) (tp : Nat) (sc : Nat) (rd : Nat) (cu : Nat) (im : Nat) (ig : Nat) (sl : Nat) (se : Nat) (su : Nat) (fc : Nat) (cS : ClassId) (s0 : Nat) (s1 : Nat) (s2 : Nat) (s3 : Nat) (n0 : Nat) (n1 : Nat) (n2 : Nat) (n3 : Nat) (a1 : Int32) (a2 : Int32) (v3 : Int64) : Met l yX9_write uX9_write ({ frames := 2, cells := 0, slots := 0, locals := 43 }) (va_Pc [.ref h0, .int a1, .int a2, .long v3] (pw (dC, dI) vwCl [(h0, .inr (7, [.ref tp, .ref sc, .ref rd, .ref cu, .ref im, .ref ig, .ref sl, .ref se, .ref su, .ref fc])), (sl, .inl (cS, 4, .inr (.inr (.inr (.inr (sf4 s0 s1 s2 s3)))))), (s0, .inr (2, [.int (-1), .int 0, .ref n0])), (s1, .inr (2, [.int (-1), .int 0, .ref n1])), (s2, .inr (2, [.int (-1), .int 0, .ref n2])), (s3, .inr (2, [.int (-1), .int 0, .ref n3]))] [(cS, .object RX3)])) (vp_Si (fun r => r = w2 a1)) 0 0 (fun _ => False) := by
  refine Met.ofW (cc := cX9_write) (maxL := 6) (ret := (some .int)) (by decide) rfl ?_
  intro p e s m args below meth c s₁ B hml hv
  obtain ⟨rfl, hP, hK, hN⟩ := hv
  have hx := B.exec
  have hb := B.bytes
  have hr := B.returns
  have hts := atoms_spec (ws := uX9_write) B.pre
  have hown : s.vm.findClass RX9 = some m.cls := findClass_of_methodNamed B.named
  have hlocks := B.notSynchronized
  have hl := lv_entry ([.ref h0, .int a1, .int a2, .long v3]) (n := 6) (Nat.le_of_ble_eq_true rfl)
  rw [lg_entry_eq]
  generalize (lg_sl ([.ref h0, .int a1, .int a2, .long v3]) ++ List.replicate (6 - (lg_sl ([.ref h0, .int a1, .int a2, .long v3])).length) Slot.unset).toArray = ls at hl ⊢
  have hl : lv_has ls 6 [(0, .ref h0), (1, .int a1), (2, .int a2), (3, .long v3)] := hl
  refine lv_aload_n hx hb dX9_write_0 rfl (lv_at hl 0 rfl) ?_
  refine lv_iload_n hx hb dX9_write_1 rfl (lv_at hl 1 rfl) ?_
  refine vp_callSi (W.runV (As := [.int a1]) (rest := []) ⟨hx, hb, hml, hown, hts⟩ (kX9_hasSlot l dC dI h0 tp sc rd cu im ig sl se su fc cS (sf4 s0 s1 s2 s3) a1) (cwV 1 hts gX9_write__X9_hasSlot_V206 rfl rfl rfl (by decide +kernel) ⟨lel 2 2 rfl, lel 43 43 rfl⟩) ⟨pw_fb, va_recv hK hP (ci := 7) (q0 := 0) rfl rfl, (pw_use hP hK hN [0, 1] rfl [0] rfl)⟩ rfl rfl hl.1 rfl (lv_room (Nat.le_of_ble_eq_true rfl)) dX9_write_2 ⟨lel 0 0 rfl, lel 0 0 rfl⟩) (fun r_1 hr_1 => ?_)
  refine lv_if_ne (tgt := 11) hx hb dX9_write_5 (by decide) (fun c_2 => ?_) (fun c_2 => ?_)
  ·
    rcases wi_4 (fun e => c_2 (hr_1.trans e)) with rfl | rfl | rfl | rfl
    ·
      refine lv_aload_n hx hb dX9_write_11 rfl (lv_at hl 0 rfl) ?_
      refine va_get (D := (dC, dI)) (ci := 7) (v := .ref sl) (C := RX9) (T := TX9) (N := 10) hx hb hts iX9_write_X9 hown hK hP 0 rfl rfl 6 (by decide) (hts (.fieldLink RX9 50 "LuckyTicket" "slots" "[LLuckyTicket$Row;") (List.mem_of_getElem? (i := 6) rfl)) (fun _ h9 => h9) rfl dX9_write_12 ?_
      refine lv_iload_n hx hb dX9_write_15 rfl (lv_at hl 1 rfl) ?_
      refine va_aldq hx hb hK hP 1 0 rfl rfl (vp_in_lit (by decide)) dX9_write_16 ?_
      refine W.eq (g2 := F0 m 17 ls (.ref s0 :: [])) (congrArg (fun v => F0 m 17 ls (va_rf v :: [])) (sf4_0 s0 s1 s2 s3)) ?_
      refine lv_astore (lv' := [(5, .ref s0), (0, .ref h0), (1, .int 0), (2, .int a2), (3, .long v3)]) hx hb dX9_write_17 hl (by decide) rfl (fun ls hl => ?_)
      refine lv_aload hx hb dX9_write_19 (lv_at hl 0 rfl) ?_
      refine vp_callSi (W.runV (As := []) (rest := []) ⟨hx, hb, hml, hown, hts⟩ (kX3_stands l dC dI s0 n0) (cwV 0 hts gX9_write__X3_stands_V270 rfl rfl rfl (by decide +kernel) ⟨lel 1 2 rfl, lel 20 43 rfl⟩) ⟨pw_fb, va_recv hK hP (ci := 2) (q0 := 2) rfl rfl, (pw_use hP hK hN [2] rfl [] rfl)⟩ rfl rfl hl.1 rfl (lv_room (Nat.le_of_ble_eq_true rfl)) dX9_write_21 ⟨lel 0 0 rfl, lel 0 0 rfl⟩) (fun r_3 hr_3 => ?_)
      obtain rfl : r_3 = 0 := hr_3
      refine lv_if_ne (tgt := 30) hx hb dX9_write_24 (by decide) (fun c_4 => absurd c_4 (by decide)) (fun _ => ?_)
      refine lv_bipush (v := (-6)) hx hb dX9_write_27 (by decide) ?_
      exact W.iret (v := (-6)) hx hb hr (fun t ht hW => ⟨(-6), rfl, (by decide), ht⟩) t_nil dX9_write_29
    ·
      refine lv_aload_n hx hb dX9_write_11 rfl (lv_at hl 0 rfl) ?_
      refine va_get (D := (dC, dI)) (ci := 7) (v := .ref sl) (C := RX9) (T := TX9) (N := 10) hx hb hts iX9_write_X9 hown hK hP 0 rfl rfl 6 (by decide) (hts (.fieldLink RX9 50 "LuckyTicket" "slots" "[LLuckyTicket$Row;") (List.mem_of_getElem? (i := 6) rfl)) (fun _ h9 => h9) rfl dX9_write_12 ?_
      refine lv_iload_n hx hb dX9_write_15 rfl (lv_at hl 1 rfl) ?_
      refine va_aldq hx hb hK hP 1 0 rfl rfl (vp_in_lit (by decide)) dX9_write_16 ?_
      refine W.eq (g2 := F0 m 17 ls (.ref s1 :: [])) (congrArg (fun v => F0 m 17 ls (va_rf v :: [])) (sf4_1 s0 s1 s2 s3)) ?_
      refine lv_astore (lv' := [(5, .ref s1), (0, .ref h0), (1, .int 1), (2, .int a2), (3, .long v3)]) hx hb dX9_write_17 hl (by decide) rfl (fun ls hl => ?_)
      refine lv_aload hx hb dX9_write_19 (lv_at hl 0 rfl) ?_
      refine vp_callSi (W.runV (As := []) (rest := []) ⟨hx, hb, hml, hown, hts⟩ (kX3_stands l dC dI s1 n1) (cwV 0 hts gX9_write__X3_stands_V270 rfl rfl rfl (by decide +kernel) ⟨lel 1 2 rfl, lel 20 43 rfl⟩) ⟨pw_fb, va_recv hK hP (ci := 2) (q0 := 3) rfl rfl, (pw_use hP hK hN [3] rfl [] rfl)⟩ rfl rfl hl.1 rfl (lv_room (Nat.le_of_ble_eq_true rfl)) dX9_write_21 ⟨lel 0 0 rfl, lel 0 0 rfl⟩) (fun r_5 hr_5 => ?_)
      obtain rfl : r_5 = 0 := hr_5
      refine lv_if_ne (tgt := 30) hx hb dX9_write_24 (by decide) (fun c_6 => absurd c_6 (by decide)) (fun _ => ?_)
      refine lv_bipush (v := (-6)) hx hb dX9_write_27 (by decide) ?_
      exact W.iret (v := (-6)) hx hb hr (fun t ht hW => ⟨(-6), rfl, (by decide), ht⟩) t_nil dX9_write_29
    ·
      refine lv_aload_n hx hb dX9_write_11 rfl (lv_at hl 0 rfl) ?_
      refine va_get (D := (dC, dI)) (ci := 7) (v := .ref sl) (C := RX9) (T := TX9) (N := 10) hx hb hts iX9_write_X9 hown hK hP 0 rfl rfl 6 (by decide) (hts (.fieldLink RX9 50 "LuckyTicket" "slots" "[LLuckyTicket$Row;") (List.mem_of_getElem? (i := 6) rfl)) (fun _ h9 => h9) rfl dX9_write_12 ?_
      refine lv_iload_n hx hb dX9_write_15 rfl (lv_at hl 1 rfl) ?_
      refine va_aldq hx hb hK hP 1 0 rfl rfl (vp_in_lit (by decide)) dX9_write_16 ?_
      refine W.eq (g2 := F0 m 17 ls (.ref s2 :: [])) (congrArg (fun v => F0 m 17 ls (va_rf v :: [])) (sf4_2 s0 s1 s2 s3)) ?_
      refine lv_astore (lv' := [(5, .ref s2), (0, .ref h0), (1, .int 2), (2, .int a2), (3, .long v3)]) hx hb dX9_write_17 hl (by decide) rfl (fun ls hl => ?_)
      refine lv_aload hx hb dX9_write_19 (lv_at hl 0 rfl) ?_
      refine vp_callSi (W.runV (As := []) (rest := []) ⟨hx, hb, hml, hown, hts⟩ (kX3_stands l dC dI s2 n2) (cwV 0 hts gX9_write__X3_stands_V270 rfl rfl rfl (by decide +kernel) ⟨lel 1 2 rfl, lel 20 43 rfl⟩) ⟨pw_fb, va_recv hK hP (ci := 2) (q0 := 4) rfl rfl, (pw_use hP hK hN [4] rfl [] rfl)⟩ rfl rfl hl.1 rfl (lv_room (Nat.le_of_ble_eq_true rfl)) dX9_write_21 ⟨lel 0 0 rfl, lel 0 0 rfl⟩) (fun r_7 hr_7 => ?_)
      obtain rfl : r_7 = 0 := hr_7
      refine lv_if_ne (tgt := 30) hx hb dX9_write_24 (by decide) (fun c_8 => absurd c_8 (by decide)) (fun _ => ?_)
      refine lv_bipush (v := (-6)) hx hb dX9_write_27 (by decide) ?_
      exact W.iret (v := (-6)) hx hb hr (fun t ht hW => ⟨(-6), rfl, (by decide), ht⟩) t_nil dX9_write_29
    ·
      refine lv_aload_n hx hb dX9_write_11 rfl (lv_at hl 0 rfl) ?_
      refine va_get (D := (dC, dI)) (ci := 7) (v := .ref sl) (C := RX9) (T := TX9) (N := 10) hx hb hts iX9_write_X9 hown hK hP 0 rfl rfl 6 (by decide) (hts (.fieldLink RX9 50 "LuckyTicket" "slots" "[LLuckyTicket$Row;") (List.mem_of_getElem? (i := 6) rfl)) (fun _ h9 => h9) rfl dX9_write_12 ?_
      refine lv_iload_n hx hb dX9_write_15 rfl (lv_at hl 1 rfl) ?_
      refine va_aldq hx hb hK hP 1 0 rfl rfl (vp_in_lit (by decide)) dX9_write_16 ?_
      refine W.eq (g2 := F0 m 17 ls (.ref s3 :: [])) (congrArg (fun v => F0 m 17 ls (va_rf v :: [])) (sf4_3 s0 s1 s2 s3)) ?_
      refine lv_astore (lv' := [(5, .ref s3), (0, .ref h0), (1, .int 3), (2, .int a2), (3, .long v3)]) hx hb dX9_write_17 hl (by decide) rfl (fun ls hl => ?_)
      refine lv_aload hx hb dX9_write_19 (lv_at hl 0 rfl) ?_
      refine vp_callSi (W.runV (As := []) (rest := []) ⟨hx, hb, hml, hown, hts⟩ (kX3_stands l dC dI s3 n3) (cwV 0 hts gX9_write__X3_stands_V270 rfl rfl rfl (by decide +kernel) ⟨lel 1 2 rfl, lel 20 43 rfl⟩) ⟨pw_fb, va_recv hK hP (ci := 2) (q0 := 5) rfl rfl, (pw_use hP hK hN [5] rfl [] rfl)⟩ rfl rfl hl.1 rfl (lv_room (Nat.le_of_ble_eq_true rfl)) dX9_write_21 ⟨lel 0 0 rfl, lel 0 0 rfl⟩) (fun r_9 hr_9 => ?_)
      obtain rfl : r_9 = 0 := hr_9
      refine lv_if_ne (tgt := 30) hx hb dX9_write_24 (by decide) (fun c_10 => absurd c_10 (by decide)) (fun _ => ?_)
      refine lv_bipush (v := (-6)) hx hb dX9_write_27 (by decide) ?_
      exact W.iret (v := (-6)) hx hb hr (fun t ht hW => ⟨(-6), rfl, (by decide), ht⟩) t_nil dX9_write_29
  ·
    refine lv_bipush (v := (-2)) hx hb dX9_write_8 (by decide) ?_
    exact W.iret (v := (-2)) hx hb hr (fun t ht hW => ⟨(-2), rfl, (if_pos (hr_1.symm.trans c_2)).symm, ht⟩) t_nil dX9_write_10
theorem dX10_write_0 : decode cX10_write 0 = .ok (.iload_n 1, 1) := by decide +kernel
theorem dX10_write_1 : decode cX10_write 1 = .ok (.invokestatic 369, 3) := by decide +kernel
theorem dX10_write_4 : decode cX10_write 4 = .ok (.ifCond .ne 6, 3) := by decide +kernel
theorem dX10_write_7 : decode cX10_write 7 = .ok (.bipush (-2), 2) := by decide +kernel
theorem dX10_write_9 : decode cX10_write 9 = .ok (.ireturn, 1) := by decide +kernel
theorem dX10_write_10 : decode cX10_write 10 = .ok (.aload_n 0, 1) := by decide +kernel
theorem dX10_write_11 : decode cX10_write 11 = .ok (.getfield 65, 3) := by decide +kernel
theorem dX10_write_14 : decode cX10_write 14 = .ok (.iload_n 1, 1) := by decide +kernel
theorem dX10_write_15 : decode cX10_write 15 = .ok (.iaload, 1) := by decide +kernel
theorem dX10_write_16 : decode cX10_write 16 = .ok (.iconst (-1), 1) := by decide +kernel
theorem dX10_write_17 : decode cX10_write 17 = .ok (.if_icmp .ne 6, 3) := by decide +kernel
theorem dX10_write_20 : decode cX10_write 20 = .ok (.bipush (-6), 2) := by decide +kernel
theorem dX10_write_22 : decode cX10_write 22 = .ok (.ireturn, 1) := by decide +kernel
def uX10_write : List Cond := .code yX10_write cX10_write 5 (some .int) :: ([.methodLink RX10 369 yX10_isSlot, .static yX10_isSlot, .initialized RX10, .code yX10_isSlot cX10_isSlot 1 (some .boolean), .constantLong RX10 375 (3), .methodLink RX10 82 yX10_in, .static yX10_in, .code yX10_in cX10_in 6 (some .boolean), .fieldLink RX10 65 "LuckyTicketModel" "many" "[I"] ++ wsX100)
theorem iX10_write_X10 : ∀ w ∈ wsX100, w ∈ uX10_write := fun _ h => List.mem_cons_of_mem _ (List.mem_append_right _ h)
set_option maxRecDepth 20000 in
theorem gX10_write__X10_isSlot_S369 : GoodIn uX10_write (va_wsS RX10 369 yX10_isSlot uX10_isSlot) := goodIn_p _ [4, 8] rfl (by decide +kernel)
set_option maxHeartbeats 4000000 in
set_option maxRecDepth 100000 in
theorem kX10_write (l : Launch) (dC : Nat → ClassId) (dI : Nat → Nat → Nat) (h0 : Nat) (m_world : Nat) (m_images : Nat) (m_hasImage : Nat) (m_luck : Nat) (m_tape : Nat) (m_five : Nat) (m_fresh : Nat) (m_waits : Nat) (m_figures : Nat) (m_pile : Nat) (m_times : Nat) (m_far : Nat) (m_queue : Nat) (m_months : Nat) (m_ways : Nat) (m_waysOn : Nat) (m_many : Nat) (m_width : Nat) (m_numbers : Nat) (m_moving : Nat) (cI : ClassId) (a1 : Int32) (a2 : Int32) (v3 : Int64) : Met l yX10_write uX10_write ({ frames := 2, cells := 0, slots := 0, locals := 45 }) (va_Pc [.ref h0, .int a1, .int a2, .long v3] (pw (dC, dI) vwCl [(h0, .inr (8, [.int 0, .ref m_world, .ref m_images, .ref m_hasImage, .ref m_luck, .ref m_tape, .int 0, .ref m_five, .int 0, .int 0, .int 0, .int 0, .int 0, .int 0, .int (-1), .ref m_fresh, .ref m_waits, .int 0, .int 0, .int 0, .ref m_figures, .ref m_pile, .long 0, .ref m_times, .ref m_far, .ref m_queue, .ref m_months, .ref m_ways, .ref m_waysOn, .ref m_many, .ref m_width, .ref m_numbers, .ref m_moving])), (m_many, .inl (cI, 4, .inl manyF))] [(cI, .int)])) (vp_Si (fun r => r = w2 a1)) 0 0 (fun _ => False) := by
  refine Met.ofW (cc := cX10_write) (maxL := 5) (ret := (some .int)) (by decide) rfl ?_
  intro p e s m args below meth c s₁ B hml hv
  obtain ⟨rfl, hP, hK, hN⟩ := hv
  have hx := B.exec
  have hb := B.bytes
  have hr := B.returns
  have hts := atoms_spec (ws := uX10_write) B.pre
  have hown : s.vm.findClass RX10 = some m.cls := findClass_of_methodNamed B.named
  have hlocks := B.notSynchronized
  have hl := lv_entry ([.ref h0, .int a1, .int a2, .long v3]) (n := 5) (Nat.le_of_ble_eq_true rfl)
  rw [lg_entry_eq]
  generalize (lg_sl ([.ref h0, .int a1, .int a2, .long v3]) ++ List.replicate (5 - (lg_sl ([.ref h0, .int a1, .int a2, .long v3])).length) Slot.unset).toArray = ls at hl ⊢
  have hl : lv_has ls 5 [(0, .ref h0), (1, .int a1), (2, .int a2), (3, .long v3)] := hl
  refine lv_iload_n hx hb dX10_write_0 rfl (lv_at hl 1 rfl) ?_
  refine vp_callSi (W.runS (As := [.int a1]) (rest := []) ⟨hx, hb, hml, hown, hts⟩ (kX10_isSlot l dC dI a1) (va_cwS 1 hts gX10_write__X10_isSlot_S369 rfl rfl rfl (by decide +kernel) ⟨lel 2 2 rfl, lel 45 45 rfl⟩) ⟨pn_fb, pn_use⟩ rfl rfl hl.1 rfl (lv_room (Nat.le_of_ble_eq_true rfl)) dX10_write_1 ⟨lel 0 0 rfl, lel 0 0 rfl⟩) (fun r_1 hr_1 => ?_)
  refine lv_if_ne (tgt := 10) hx hb dX10_write_4 (by decide) (fun c_2 => ?_) (fun c_2 => ?_)
  ·
    rcases wi_4 (fun e => c_2 (hr_1.trans e)) with rfl | rfl | rfl | rfl
    ·
      refine lv_aload_n hx hb dX10_write_10 rfl (lv_at hl 0 rfl) ?_
      refine va_get (D := (dC, dI)) (ci := 8) (v := .ref m_many) (C := RX10) (T := TX10) (N := 33) hx hb hts iX10_write_X10 hown hK hP 0 rfl rfl 29 (by decide) (hts (.fieldLink RX10 65 "LuckyTicketModel" "many" "[I") (List.mem_of_getElem? (i := 9) rfl)) (fun _ h9 => h9) rfl dX10_write_11 ?_
      refine lv_iload_n hx hb dX10_write_14 rfl (lv_at hl 1 rfl) ?_
      refine va_iald hx hb hK hP 1 0 rfl rfl (vp_in_lit (by decide)) dX10_write_15 ?_
      refine lv_topi (fun z_3 ez_3 => ?_)
      obtain rfl : z_3 = (-1) := ez_3.trans (by decide)
      refine lv_iconst (v := (-1)) hx hb dX10_write_16 (by decide) ?_
      refine lv_icmp_ne (tgt := 23) hx hb dX10_write_17 (by decide) (fun c_4 => absurd c_4 (by decide)) (fun _ => ?_)
      refine lv_bipush (v := (-6)) hx hb dX10_write_20 (by decide) ?_
      exact W.iret (v := (-6)) hx hb hr (fun t ht hW => ⟨(-6), rfl, (by decide), ht⟩) t_nil dX10_write_22
    ·
      refine lv_aload_n hx hb dX10_write_10 rfl (lv_at hl 0 rfl) ?_
      refine va_get (D := (dC, dI)) (ci := 8) (v := .ref m_many) (C := RX10) (T := TX10) (N := 33) hx hb hts iX10_write_X10 hown hK hP 0 rfl rfl 29 (by decide) (hts (.fieldLink RX10 65 "LuckyTicketModel" "many" "[I") (List.mem_of_getElem? (i := 9) rfl)) (fun _ h9 => h9) rfl dX10_write_11 ?_
      refine lv_iload_n hx hb dX10_write_14 rfl (lv_at hl 1 rfl) ?_
      refine va_iald hx hb hK hP 1 0 rfl rfl (vp_in_lit (by decide)) dX10_write_15 ?_
      refine lv_topi (fun z_5 ez_5 => ?_)
      obtain rfl : z_5 = (-1) := ez_5.trans (by decide)
      refine lv_iconst (v := (-1)) hx hb dX10_write_16 (by decide) ?_
      refine lv_icmp_ne (tgt := 23) hx hb dX10_write_17 (by decide) (fun c_6 => absurd c_6 (by decide)) (fun _ => ?_)
      refine lv_bipush (v := (-6)) hx hb dX10_write_20 (by decide) ?_
      exact W.iret (v := (-6)) hx hb hr (fun t ht hW => ⟨(-6), rfl, (by decide), ht⟩) t_nil dX10_write_22
    ·
      refine lv_aload_n hx hb dX10_write_10 rfl (lv_at hl 0 rfl) ?_
      refine va_get (D := (dC, dI)) (ci := 8) (v := .ref m_many) (C := RX10) (T := TX10) (N := 33) hx hb hts iX10_write_X10 hown hK hP 0 rfl rfl 29 (by decide) (hts (.fieldLink RX10 65 "LuckyTicketModel" "many" "[I") (List.mem_of_getElem? (i := 9) rfl)) (fun _ h9 => h9) rfl dX10_write_11 ?_
      refine lv_iload_n hx hb dX10_write_14 rfl (lv_at hl 1 rfl) ?_
      refine va_iald hx hb hK hP 1 0 rfl rfl (vp_in_lit (by decide)) dX10_write_15 ?_
      refine lv_topi (fun z_7 ez_7 => ?_)
      obtain rfl : z_7 = (-1) := ez_7.trans (by decide)
      refine lv_iconst (v := (-1)) hx hb dX10_write_16 (by decide) ?_
      refine lv_icmp_ne (tgt := 23) hx hb dX10_write_17 (by decide) (fun c_8 => absurd c_8 (by decide)) (fun _ => ?_)
      refine lv_bipush (v := (-6)) hx hb dX10_write_20 (by decide) ?_
      exact W.iret (v := (-6)) hx hb hr (fun t ht hW => ⟨(-6), rfl, (by decide), ht⟩) t_nil dX10_write_22
    ·
      refine lv_aload_n hx hb dX10_write_10 rfl (lv_at hl 0 rfl) ?_
      refine va_get (D := (dC, dI)) (ci := 8) (v := .ref m_many) (C := RX10) (T := TX10) (N := 33) hx hb hts iX10_write_X10 hown hK hP 0 rfl rfl 29 (by decide) (hts (.fieldLink RX10 65 "LuckyTicketModel" "many" "[I") (List.mem_of_getElem? (i := 9) rfl)) (fun _ h9 => h9) rfl dX10_write_11 ?_
      refine lv_iload_n hx hb dX10_write_14 rfl (lv_at hl 1 rfl) ?_
      refine va_iald hx hb hK hP 1 0 rfl rfl (vp_in_lit (by decide)) dX10_write_15 ?_
      refine lv_topi (fun z_9 ez_9 => ?_)
      obtain rfl : z_9 = (-1) := ez_9.trans (by decide)
      refine lv_iconst (v := (-1)) hx hb dX10_write_16 (by decide) ?_
      refine lv_icmp_ne (tgt := 23) hx hb dX10_write_17 (by decide) (fun c_10 => absurd c_10 (by decide)) (fun _ => ?_)
      refine lv_bipush (v := (-6)) hx hb dX10_write_20 (by decide) ?_
      exact W.iret (v := (-6)) hx hb hr (fun t ht hW => ⟨(-6), rfl, (by decide), ht⟩) t_nil dX10_write_22
  ·
    refine lv_bipush (v := (-2)) hx hb dX10_write_7 (by decide) ?_
    exact W.iret (v := (-2)) hx hb hr (fun t ht hW => ⟨(-2), rfl, (if_pos (hr_1.symm.trans c_2)).symm, ht⟩) t_nil dX10_write_9
theorem dX9_paste_0 : decode cX9_paste 0 = .ok (.aload_n 0, 1) := by decide +kernel
theorem dX9_paste_1 : decode cX9_paste 1 = .ok (.iload_n 1, 1) := by decide +kernel
theorem dX9_paste_2 : decode cX9_paste 2 = .ok (.invokevirtual 206, 3) := by decide +kernel
theorem dX9_paste_5 : decode cX9_paste 5 = .ok (.ifCond .eq 11, 3) := by decide +kernel
theorem dX9_paste_8 : decode cX9_paste 8 = .ok (.aload_n 0, 1) := by decide +kernel
theorem dX9_paste_9 : decode cX9_paste 9 = .ok (.iload_n 3, 1) := by decide +kernel
theorem dX9_paste_10 : decode cX9_paste 10 = .ok (.invokevirtual 206, 3) := by decide +kernel
theorem dX9_paste_13 : decode cX9_paste 13 = .ok (.ifCond .ne 6, 3) := by decide +kernel
theorem dX9_paste_16 : decode cX9_paste 16 = .ok (.bipush (-2), 2) := by decide +kernel
theorem dX9_paste_18 : decode cX9_paste 18 = .ok (.ireturn, 1) := by decide +kernel
theorem dX9_paste_19 : decode cX9_paste 19 = .ok (.aload_n 0, 1) := by decide +kernel
theorem dX9_paste_20 : decode cX9_paste 20 = .ok (.getfield 50, 3) := by decide +kernel
theorem dX9_paste_23 : decode cX9_paste 23 = .ok (.iload_n 1, 1) := by decide +kernel
theorem dX9_paste_24 : decode cX9_paste 24 = .ok (.aaload, 1) := by decide +kernel
theorem dX9_paste_25 : decode cX9_paste 25 = .ok (.astore 6, 2) := by decide +kernel
theorem dX9_paste_27 : decode cX9_paste 27 = .ok (.aload_n 0, 1) := by decide +kernel
theorem dX9_paste_28 : decode cX9_paste 28 = .ok (.getfield 50, 3) := by decide +kernel
theorem dX9_paste_31 : decode cX9_paste 31 = .ok (.iload_n 3, 1) := by decide +kernel
theorem dX9_paste_32 : decode cX9_paste 32 = .ok (.aaload, 1) := by decide +kernel
theorem dX9_paste_33 : decode cX9_paste 33 = .ok (.astore 7, 2) := by decide +kernel
theorem dX9_paste_35 : decode cX9_paste 35 = .ok (.aload 6, 2) := by decide +kernel
theorem dX9_paste_37 : decode cX9_paste 37 = .ok (.invokevirtual 270, 3) := by decide +kernel
theorem dX9_paste_40 : decode cX9_paste 40 = .ok (.ifCond .eq 11, 3) := by decide +kernel
theorem dX9_paste_51 : decode cX9_paste 51 = .ok (.bipush (-6), 2) := by decide +kernel
theorem dX9_paste_53 : decode cX9_paste 53 = .ok (.ireturn, 1) := by decide +kernel
def uX9_paste : List Cond := .code yX9_paste cX9_paste 8 (some .int) :: ([.methodLink RX9 206 yX9_hasSlot, .instanceMethod yX9_hasSlot, .selects RX9 yX9_hasSlot yX9_hasSlot, .initialized RX9, .code yX9_hasSlot cX9_hasSlot 2 (some .boolean), .fieldLink RX9 50 "LuckyTicket" "slots" "[LLuckyTicket$Row;", .methodLink RX9 158 yX9_isWithin, .static yX9_isWithin, .code yX9_isWithin cX9_isWithin 3 (some .boolean), .methodLink RX9 270 yX3_stands, .instanceMethod yX3_stands, .selects RX3 yX3_stands yX3_stands, .initialized RX3, .code yX3_stands cX3_stands 1 (some .boolean), .fieldLink RX3 9 "LuckyTicket$Row" "width" "I"] ++ wsX90 ++ wsX30)
theorem iX9_paste_X9 : ∀ w ∈ wsX90, w ∈ uX9_paste := fun _ h => List.mem_cons_of_mem _ (List.mem_append_left _ (List.mem_append_right _ h))
theorem iX9_paste_X3 : ∀ w ∈ wsX30, w ∈ uX9_paste := fun _ h => List.mem_cons_of_mem _ (List.mem_append_right _ h)
set_option maxRecDepth 20000 in
theorem gX9_paste__X9_hasSlot_V206 : GoodIn uX9_paste (wsV RX9 206 RX9 yX9_hasSlot uX9_hasSlot) := goodIn_p _ [5, 9] rfl (by decide +kernel)
set_option maxRecDepth 20000 in
theorem gX9_paste__X3_stands_V270 : GoodIn uX9_paste (wsV RX9 270 RX3 yX3_stands uX3_stands) := goodIn_p _ [14] rfl (by decide +kernel)
set_option maxHeartbeats 4000000 in
set_option maxRecDepth 100000 in
theorem kX9_paste (l : Launch) (dC : Nat → ClassId) (dI : Nat → Nat → Nat) (h0 : Nat) (tp : Nat) (sc : Nat) (rd : Nat) (cu : Nat) (im : Nat) (ig : Nat) (sl : Nat) (se : Nat) (su : Nat) (fc : Nat) (cS : ClassId) (s0 : Nat) (s1 : Nat) (s2 : Nat) (s3 : Nat) (n0 : Nat) (n1 : Nat) (n2 : Nat) (n3 : Nat) (a1 : Int32) (a2 : Int32) (a3 : Int32) (a4 : Int32) (a5 : Int32) : Met l yX9_paste uX9_paste ({ frames := 2, cells := 0, slots := 0, locals := 43 }) (va_Pc [.ref h0, .int a1, .int a2, .int a3, .int a4, .int a5] (pw (dC, dI) vwCl [(h0, .inr (7, [.ref tp, .ref sc, .ref rd, .ref cu, .ref im, .ref ig, .ref sl, .ref se, .ref su, .ref fc])), (sl, .inl (cS, 4, .inr (.inr (.inr (.inr (sf4 s0 s1 s2 s3)))))), (s0, .inr (2, [.int (-1), .int 0, .ref n0])), (s1, .inr (2, [.int (-1), .int 0, .ref n1])), (s2, .inr (2, [.int (-1), .int 0, .ref n2])), (s3, .inr (2, [.int (-1), .int 0, .ref n3]))] [(cS, .object RX3)])) (vp_Si (fun r => r = p2 a1 a3)) 0 0 (fun _ => False) := by
  refine Met.ofW (cc := cX9_paste) (maxL := 8) (ret := (some .int)) (by decide) rfl ?_
  intro p e s m args below meth c s₁ B hml hv
  obtain ⟨rfl, hP, hK, hN⟩ := hv
  have hx := B.exec
  have hb := B.bytes
  have hr := B.returns
  have hts := atoms_spec (ws := uX9_paste) B.pre
  have hown : s.vm.findClass RX9 = some m.cls := findClass_of_methodNamed B.named
  have hlocks := B.notSynchronized
  have hl := lv_entry ([.ref h0, .int a1, .int a2, .int a3, .int a4, .int a5]) (n := 8) (Nat.le_of_ble_eq_true rfl)
  rw [lg_entry_eq]
  generalize (lg_sl ([.ref h0, .int a1, .int a2, .int a3, .int a4, .int a5]) ++ List.replicate (8 - (lg_sl ([.ref h0, .int a1, .int a2, .int a3, .int a4, .int a5])).length) Slot.unset).toArray = ls at hl ⊢
  have hl : lv_has ls 8 [(0, .ref h0), (1, .int a1), (2, .int a2), (3, .int a3), (4, .int a4), (5, .int a5)] := hl
  refine lv_aload_n hx hb dX9_paste_0 rfl (lv_at hl 0 rfl) ?_
  refine lv_iload_n hx hb dX9_paste_1 rfl (lv_at hl 1 rfl) ?_
  refine vp_callSi (W.runV (As := [.int a1]) (rest := []) ⟨hx, hb, hml, hown, hts⟩ (kX9_hasSlot l dC dI h0 tp sc rd cu im ig sl se su fc cS (sf4 s0 s1 s2 s3) a1) (cwV 1 hts gX9_paste__X9_hasSlot_V206 rfl rfl rfl (by decide +kernel) ⟨lel 2 2 rfl, lel 43 43 rfl⟩) ⟨pw_fb, va_recv hK hP (ci := 7) (q0 := 0) rfl rfl, (pw_use hP hK hN [0, 1] rfl [0] rfl)⟩ rfl rfl hl.1 rfl (lv_room (Nat.le_of_ble_eq_true rfl)) dX9_paste_2 ⟨lel 0 0 rfl, lel 0 0 rfl⟩) (fun r_1 hr_1 => ?_)
  refine lv_if_eq (tgt := 16) hx hb dX9_paste_5 (by decide) (fun c_2 => ?_) (fun c_2 => ?_)
  ·
    refine lv_bipush (v := (-2)) hx hb dX9_paste_16 (by decide) ?_
    exact W.iret (v := (-2)) hx hb hr (fun t ht hW => ⟨(-2), rfl, (if_pos (Or.inl (hr_1.symm.trans c_2))).symm, ht⟩) t_nil dX9_paste_18
  ·
    refine lv_aload_n hx hb dX9_paste_8 rfl (lv_at hl 0 rfl) ?_
    refine lv_iload_n hx hb dX9_paste_9 rfl (lv_at hl 3 rfl) ?_
    refine vp_callSi (W.runV (As := [.int a3]) (rest := []) ⟨hx, hb, hml, hown, hts⟩ (kX9_hasSlot l dC dI h0 tp sc rd cu im ig sl se su fc cS (sf4 s0 s1 s2 s3) a3) (cwV 1 hts gX9_paste__X9_hasSlot_V206 rfl rfl rfl (by decide +kernel) ⟨lel 2 2 rfl, lel 43 43 rfl⟩) ⟨pw_fb, va_recv hK hP (ci := 7) (q0 := 0) rfl rfl, (pw_use hP hK hN [0, 1] rfl [0] rfl)⟩ rfl rfl hl.1 rfl (lv_room (Nat.le_of_ble_eq_true rfl)) dX9_paste_10 ⟨lel 0 0 rfl, lel 0 0 rfl⟩) (fun r_3 hr_3 => ?_)
    refine lv_if_ne (tgt := 19) hx hb dX9_paste_13 (by decide) (fun c_4 => ?_) (fun c_4 => ?_)
    ·
      rcases wi_4 (fun e => c_2 (hr_1.trans e)) with rfl | rfl | rfl | rfl
      ·
        rcases wi_4 (fun e => c_4 (hr_3.trans e)) with rfl | rfl | rfl | rfl
        ·
          refine lv_aload_n hx hb dX9_paste_19 rfl (lv_at hl 0 rfl) ?_
          refine va_get (D := (dC, dI)) (ci := 7) (v := .ref sl) (C := RX9) (T := TX9) (N := 10) hx hb hts iX9_paste_X9 hown hK hP 0 rfl rfl 6 (by decide) (hts (.fieldLink RX9 50 "LuckyTicket" "slots" "[LLuckyTicket$Row;") (List.mem_of_getElem? (i := 6) rfl)) (fun _ h9 => h9) rfl dX9_paste_20 ?_
          refine lv_iload_n hx hb dX9_paste_23 rfl (lv_at hl 1 rfl) ?_
          refine va_aldq hx hb hK hP 1 0 rfl rfl (vp_in_lit (by decide)) dX9_paste_24 ?_
          refine W.eq (g2 := F0 m 25 ls (.ref s0 :: [])) (congrArg (fun v => F0 m 25 ls (va_rf v :: [])) (sf4_0 s0 s1 s2 s3)) ?_
          refine lv_astore (lv' := [(6, .ref s0), (0, .ref h0), (1, .int 0), (2, .int a2), (3, .int 0), (4, .int a4), (5, .int a5)]) hx hb dX9_paste_25 hl (by decide) rfl (fun ls hl => ?_)
          refine lv_aload_n hx hb dX9_paste_27 rfl (lv_at hl 1 rfl) ?_
          refine va_get (D := (dC, dI)) (ci := 7) (v := .ref sl) (C := RX9) (T := TX9) (N := 10) hx hb hts iX9_paste_X9 hown hK hP 0 rfl rfl 6 (by decide) (hts (.fieldLink RX9 50 "LuckyTicket" "slots" "[LLuckyTicket$Row;") (List.mem_of_getElem? (i := 6) rfl)) (fun _ h9 => h9) rfl dX9_paste_28 ?_
          refine lv_iload_n hx hb dX9_paste_31 rfl (lv_at hl 4 rfl) ?_
          refine va_aldq hx hb hK hP 1 0 rfl rfl (vp_in_lit (by decide)) dX9_paste_32 ?_
          refine W.eq (g2 := F0 m 33 ls (.ref s0 :: [])) (congrArg (fun v => F0 m 33 ls (va_rf v :: [])) (sf4_0 s0 s1 s2 s3)) ?_
          refine lv_astore (lv' := [(7, .ref s0), (6, .ref s0), (0, .ref h0), (1, .int 0), (2, .int a2), (3, .int 0), (4, .int a4), (5, .int a5)]) hx hb dX9_paste_33 hl (by decide) rfl (fun ls hl => ?_)
          refine lv_aload hx hb dX9_paste_35 (lv_at hl 1 rfl) ?_
          refine vp_callSi (W.runV (As := []) (rest := []) ⟨hx, hb, hml, hown, hts⟩ (kX3_stands l dC dI s0 n0) (cwV 0 hts gX9_paste__X3_stands_V270 rfl rfl rfl (by decide +kernel) ⟨lel 1 2 rfl, lel 20 43 rfl⟩) ⟨pw_fb, va_recv hK hP (ci := 2) (q0 := 2) rfl rfl, (pw_use hP hK hN [2] rfl [] rfl)⟩ rfl rfl hl.1 rfl (lv_room (Nat.le_of_ble_eq_true rfl)) dX9_paste_37 ⟨lel 0 0 rfl, lel 0 0 rfl⟩) (fun r_5 hr_5 => ?_)
          obtain rfl : r_5 = 0 := hr_5
          refine lv_if_eq (tgt := 51) hx hb dX9_paste_40 (by decide) (fun _ => ?_) (fun c_6 => absurd c_6 (by decide))
          refine lv_bipush (v := (-6)) hx hb dX9_paste_51 (by decide) ?_
          exact W.iret (v := (-6)) hx hb hr (fun t ht hW => ⟨(-6), rfl, (by decide), ht⟩) t_nil dX9_paste_53
        ·
          refine lv_aload_n hx hb dX9_paste_19 rfl (lv_at hl 0 rfl) ?_
          refine va_get (D := (dC, dI)) (ci := 7) (v := .ref sl) (C := RX9) (T := TX9) (N := 10) hx hb hts iX9_paste_X9 hown hK hP 0 rfl rfl 6 (by decide) (hts (.fieldLink RX9 50 "LuckyTicket" "slots" "[LLuckyTicket$Row;") (List.mem_of_getElem? (i := 6) rfl)) (fun _ h9 => h9) rfl dX9_paste_20 ?_
          refine lv_iload_n hx hb dX9_paste_23 rfl (lv_at hl 1 rfl) ?_
          refine va_aldq hx hb hK hP 1 0 rfl rfl (vp_in_lit (by decide)) dX9_paste_24 ?_
          refine W.eq (g2 := F0 m 25 ls (.ref s0 :: [])) (congrArg (fun v => F0 m 25 ls (va_rf v :: [])) (sf4_0 s0 s1 s2 s3)) ?_
          refine lv_astore (lv' := [(6, .ref s0), (0, .ref h0), (1, .int 0), (2, .int a2), (3, .int 1), (4, .int a4), (5, .int a5)]) hx hb dX9_paste_25 hl (by decide) rfl (fun ls hl => ?_)
          refine lv_aload_n hx hb dX9_paste_27 rfl (lv_at hl 1 rfl) ?_
          refine va_get (D := (dC, dI)) (ci := 7) (v := .ref sl) (C := RX9) (T := TX9) (N := 10) hx hb hts iX9_paste_X9 hown hK hP 0 rfl rfl 6 (by decide) (hts (.fieldLink RX9 50 "LuckyTicket" "slots" "[LLuckyTicket$Row;") (List.mem_of_getElem? (i := 6) rfl)) (fun _ h9 => h9) rfl dX9_paste_28 ?_
          refine lv_iload_n hx hb dX9_paste_31 rfl (lv_at hl 4 rfl) ?_
          refine va_aldq hx hb hK hP 1 0 rfl rfl (vp_in_lit (by decide)) dX9_paste_32 ?_
          refine W.eq (g2 := F0 m 33 ls (.ref s1 :: [])) (congrArg (fun v => F0 m 33 ls (va_rf v :: [])) (sf4_1 s0 s1 s2 s3)) ?_
          refine lv_astore (lv' := [(7, .ref s1), (6, .ref s0), (0, .ref h0), (1, .int 0), (2, .int a2), (3, .int 1), (4, .int a4), (5, .int a5)]) hx hb dX9_paste_33 hl (by decide) rfl (fun ls hl => ?_)
          refine lv_aload hx hb dX9_paste_35 (lv_at hl 1 rfl) ?_
          refine vp_callSi (W.runV (As := []) (rest := []) ⟨hx, hb, hml, hown, hts⟩ (kX3_stands l dC dI s0 n0) (cwV 0 hts gX9_paste__X3_stands_V270 rfl rfl rfl (by decide +kernel) ⟨lel 1 2 rfl, lel 20 43 rfl⟩) ⟨pw_fb, va_recv hK hP (ci := 2) (q0 := 2) rfl rfl, (pw_use hP hK hN [2] rfl [] rfl)⟩ rfl rfl hl.1 rfl (lv_room (Nat.le_of_ble_eq_true rfl)) dX9_paste_37 ⟨lel 0 0 rfl, lel 0 0 rfl⟩) (fun r_7 hr_7 => ?_)
          obtain rfl : r_7 = 0 := hr_7
          refine lv_if_eq (tgt := 51) hx hb dX9_paste_40 (by decide) (fun _ => ?_) (fun c_8 => absurd c_8 (by decide))
          refine lv_bipush (v := (-6)) hx hb dX9_paste_51 (by decide) ?_
          exact W.iret (v := (-6)) hx hb hr (fun t ht hW => ⟨(-6), rfl, (by decide), ht⟩) t_nil dX9_paste_53
        ·
          refine lv_aload_n hx hb dX9_paste_19 rfl (lv_at hl 0 rfl) ?_
          refine va_get (D := (dC, dI)) (ci := 7) (v := .ref sl) (C := RX9) (T := TX9) (N := 10) hx hb hts iX9_paste_X9 hown hK hP 0 rfl rfl 6 (by decide) (hts (.fieldLink RX9 50 "LuckyTicket" "slots" "[LLuckyTicket$Row;") (List.mem_of_getElem? (i := 6) rfl)) (fun _ h9 => h9) rfl dX9_paste_20 ?_
          refine lv_iload_n hx hb dX9_paste_23 rfl (lv_at hl 1 rfl) ?_
          refine va_aldq hx hb hK hP 1 0 rfl rfl (vp_in_lit (by decide)) dX9_paste_24 ?_
          refine W.eq (g2 := F0 m 25 ls (.ref s0 :: [])) (congrArg (fun v => F0 m 25 ls (va_rf v :: [])) (sf4_0 s0 s1 s2 s3)) ?_
          refine lv_astore (lv' := [(6, .ref s0), (0, .ref h0), (1, .int 0), (2, .int a2), (3, .int 2), (4, .int a4), (5, .int a5)]) hx hb dX9_paste_25 hl (by decide) rfl (fun ls hl => ?_)
          refine lv_aload_n hx hb dX9_paste_27 rfl (lv_at hl 1 rfl) ?_
          refine va_get (D := (dC, dI)) (ci := 7) (v := .ref sl) (C := RX9) (T := TX9) (N := 10) hx hb hts iX9_paste_X9 hown hK hP 0 rfl rfl 6 (by decide) (hts (.fieldLink RX9 50 "LuckyTicket" "slots" "[LLuckyTicket$Row;") (List.mem_of_getElem? (i := 6) rfl)) (fun _ h9 => h9) rfl dX9_paste_28 ?_
          refine lv_iload_n hx hb dX9_paste_31 rfl (lv_at hl 4 rfl) ?_
          refine va_aldq hx hb hK hP 1 0 rfl rfl (vp_in_lit (by decide)) dX9_paste_32 ?_
          refine W.eq (g2 := F0 m 33 ls (.ref s2 :: [])) (congrArg (fun v => F0 m 33 ls (va_rf v :: [])) (sf4_2 s0 s1 s2 s3)) ?_
          refine lv_astore (lv' := [(7, .ref s2), (6, .ref s0), (0, .ref h0), (1, .int 0), (2, .int a2), (3, .int 2), (4, .int a4), (5, .int a5)]) hx hb dX9_paste_33 hl (by decide) rfl (fun ls hl => ?_)
          refine lv_aload hx hb dX9_paste_35 (lv_at hl 1 rfl) ?_
          refine vp_callSi (W.runV (As := []) (rest := []) ⟨hx, hb, hml, hown, hts⟩ (kX3_stands l dC dI s0 n0) (cwV 0 hts gX9_paste__X3_stands_V270 rfl rfl rfl (by decide +kernel) ⟨lel 1 2 rfl, lel 20 43 rfl⟩) ⟨pw_fb, va_recv hK hP (ci := 2) (q0 := 2) rfl rfl, (pw_use hP hK hN [2] rfl [] rfl)⟩ rfl rfl hl.1 rfl (lv_room (Nat.le_of_ble_eq_true rfl)) dX9_paste_37 ⟨lel 0 0 rfl, lel 0 0 rfl⟩) (fun r_9 hr_9 => ?_)
          obtain rfl : r_9 = 0 := hr_9
          refine lv_if_eq (tgt := 51) hx hb dX9_paste_40 (by decide) (fun _ => ?_) (fun c_10 => absurd c_10 (by decide))
          refine lv_bipush (v := (-6)) hx hb dX9_paste_51 (by decide) ?_
          exact W.iret (v := (-6)) hx hb hr (fun t ht hW => ⟨(-6), rfl, (by decide), ht⟩) t_nil dX9_paste_53
        ·
          refine lv_aload_n hx hb dX9_paste_19 rfl (lv_at hl 0 rfl) ?_
          refine va_get (D := (dC, dI)) (ci := 7) (v := .ref sl) (C := RX9) (T := TX9) (N := 10) hx hb hts iX9_paste_X9 hown hK hP 0 rfl rfl 6 (by decide) (hts (.fieldLink RX9 50 "LuckyTicket" "slots" "[LLuckyTicket$Row;") (List.mem_of_getElem? (i := 6) rfl)) (fun _ h9 => h9) rfl dX9_paste_20 ?_
          refine lv_iload_n hx hb dX9_paste_23 rfl (lv_at hl 1 rfl) ?_
          refine va_aldq hx hb hK hP 1 0 rfl rfl (vp_in_lit (by decide)) dX9_paste_24 ?_
          refine W.eq (g2 := F0 m 25 ls (.ref s0 :: [])) (congrArg (fun v => F0 m 25 ls (va_rf v :: [])) (sf4_0 s0 s1 s2 s3)) ?_
          refine lv_astore (lv' := [(6, .ref s0), (0, .ref h0), (1, .int 0), (2, .int a2), (3, .int 3), (4, .int a4), (5, .int a5)]) hx hb dX9_paste_25 hl (by decide) rfl (fun ls hl => ?_)
          refine lv_aload_n hx hb dX9_paste_27 rfl (lv_at hl 1 rfl) ?_
          refine va_get (D := (dC, dI)) (ci := 7) (v := .ref sl) (C := RX9) (T := TX9) (N := 10) hx hb hts iX9_paste_X9 hown hK hP 0 rfl rfl 6 (by decide) (hts (.fieldLink RX9 50 "LuckyTicket" "slots" "[LLuckyTicket$Row;") (List.mem_of_getElem? (i := 6) rfl)) (fun _ h9 => h9) rfl dX9_paste_28 ?_
          refine lv_iload_n hx hb dX9_paste_31 rfl (lv_at hl 4 rfl) ?_
          refine va_aldq hx hb hK hP 1 0 rfl rfl (vp_in_lit (by decide)) dX9_paste_32 ?_
          refine W.eq (g2 := F0 m 33 ls (.ref s3 :: [])) (congrArg (fun v => F0 m 33 ls (va_rf v :: [])) (sf4_3 s0 s1 s2 s3)) ?_
          refine lv_astore (lv' := [(7, .ref s3), (6, .ref s0), (0, .ref h0), (1, .int 0), (2, .int a2), (3, .int 3), (4, .int a4), (5, .int a5)]) hx hb dX9_paste_33 hl (by decide) rfl (fun ls hl => ?_)
          refine lv_aload hx hb dX9_paste_35 (lv_at hl 1 rfl) ?_
          refine vp_callSi (W.runV (As := []) (rest := []) ⟨hx, hb, hml, hown, hts⟩ (kX3_stands l dC dI s0 n0) (cwV 0 hts gX9_paste__X3_stands_V270 rfl rfl rfl (by decide +kernel) ⟨lel 1 2 rfl, lel 20 43 rfl⟩) ⟨pw_fb, va_recv hK hP (ci := 2) (q0 := 2) rfl rfl, (pw_use hP hK hN [2] rfl [] rfl)⟩ rfl rfl hl.1 rfl (lv_room (Nat.le_of_ble_eq_true rfl)) dX9_paste_37 ⟨lel 0 0 rfl, lel 0 0 rfl⟩) (fun r_11 hr_11 => ?_)
          obtain rfl : r_11 = 0 := hr_11
          refine lv_if_eq (tgt := 51) hx hb dX9_paste_40 (by decide) (fun _ => ?_) (fun c_12 => absurd c_12 (by decide))
          refine lv_bipush (v := (-6)) hx hb dX9_paste_51 (by decide) ?_
          exact W.iret (v := (-6)) hx hb hr (fun t ht hW => ⟨(-6), rfl, (by decide), ht⟩) t_nil dX9_paste_53
      ·
        rcases wi_4 (fun e => c_4 (hr_3.trans e)) with rfl | rfl | rfl | rfl
        ·
          refine lv_aload_n hx hb dX9_paste_19 rfl (lv_at hl 0 rfl) ?_
          refine va_get (D := (dC, dI)) (ci := 7) (v := .ref sl) (C := RX9) (T := TX9) (N := 10) hx hb hts iX9_paste_X9 hown hK hP 0 rfl rfl 6 (by decide) (hts (.fieldLink RX9 50 "LuckyTicket" "slots" "[LLuckyTicket$Row;") (List.mem_of_getElem? (i := 6) rfl)) (fun _ h9 => h9) rfl dX9_paste_20 ?_
          refine lv_iload_n hx hb dX9_paste_23 rfl (lv_at hl 1 rfl) ?_
          refine va_aldq hx hb hK hP 1 0 rfl rfl (vp_in_lit (by decide)) dX9_paste_24 ?_
          refine W.eq (g2 := F0 m 25 ls (.ref s1 :: [])) (congrArg (fun v => F0 m 25 ls (va_rf v :: [])) (sf4_1 s0 s1 s2 s3)) ?_
          refine lv_astore (lv' := [(6, .ref s1), (0, .ref h0), (1, .int 1), (2, .int a2), (3, .int 0), (4, .int a4), (5, .int a5)]) hx hb dX9_paste_25 hl (by decide) rfl (fun ls hl => ?_)
          refine lv_aload_n hx hb dX9_paste_27 rfl (lv_at hl 1 rfl) ?_
          refine va_get (D := (dC, dI)) (ci := 7) (v := .ref sl) (C := RX9) (T := TX9) (N := 10) hx hb hts iX9_paste_X9 hown hK hP 0 rfl rfl 6 (by decide) (hts (.fieldLink RX9 50 "LuckyTicket" "slots" "[LLuckyTicket$Row;") (List.mem_of_getElem? (i := 6) rfl)) (fun _ h9 => h9) rfl dX9_paste_28 ?_
          refine lv_iload_n hx hb dX9_paste_31 rfl (lv_at hl 4 rfl) ?_
          refine va_aldq hx hb hK hP 1 0 rfl rfl (vp_in_lit (by decide)) dX9_paste_32 ?_
          refine W.eq (g2 := F0 m 33 ls (.ref s0 :: [])) (congrArg (fun v => F0 m 33 ls (va_rf v :: [])) (sf4_0 s0 s1 s2 s3)) ?_
          refine lv_astore (lv' := [(7, .ref s0), (6, .ref s1), (0, .ref h0), (1, .int 1), (2, .int a2), (3, .int 0), (4, .int a4), (5, .int a5)]) hx hb dX9_paste_33 hl (by decide) rfl (fun ls hl => ?_)
          refine lv_aload hx hb dX9_paste_35 (lv_at hl 1 rfl) ?_
          refine vp_callSi (W.runV (As := []) (rest := []) ⟨hx, hb, hml, hown, hts⟩ (kX3_stands l dC dI s1 n1) (cwV 0 hts gX9_paste__X3_stands_V270 rfl rfl rfl (by decide +kernel) ⟨lel 1 2 rfl, lel 20 43 rfl⟩) ⟨pw_fb, va_recv hK hP (ci := 2) (q0 := 3) rfl rfl, (pw_use hP hK hN [3] rfl [] rfl)⟩ rfl rfl hl.1 rfl (lv_room (Nat.le_of_ble_eq_true rfl)) dX9_paste_37 ⟨lel 0 0 rfl, lel 0 0 rfl⟩) (fun r_13 hr_13 => ?_)
          obtain rfl : r_13 = 0 := hr_13
          refine lv_if_eq (tgt := 51) hx hb dX9_paste_40 (by decide) (fun _ => ?_) (fun c_14 => absurd c_14 (by decide))
          refine lv_bipush (v := (-6)) hx hb dX9_paste_51 (by decide) ?_
          exact W.iret (v := (-6)) hx hb hr (fun t ht hW => ⟨(-6), rfl, (by decide), ht⟩) t_nil dX9_paste_53
        ·
          refine lv_aload_n hx hb dX9_paste_19 rfl (lv_at hl 0 rfl) ?_
          refine va_get (D := (dC, dI)) (ci := 7) (v := .ref sl) (C := RX9) (T := TX9) (N := 10) hx hb hts iX9_paste_X9 hown hK hP 0 rfl rfl 6 (by decide) (hts (.fieldLink RX9 50 "LuckyTicket" "slots" "[LLuckyTicket$Row;") (List.mem_of_getElem? (i := 6) rfl)) (fun _ h9 => h9) rfl dX9_paste_20 ?_
          refine lv_iload_n hx hb dX9_paste_23 rfl (lv_at hl 1 rfl) ?_
          refine va_aldq hx hb hK hP 1 0 rfl rfl (vp_in_lit (by decide)) dX9_paste_24 ?_
          refine W.eq (g2 := F0 m 25 ls (.ref s1 :: [])) (congrArg (fun v => F0 m 25 ls (va_rf v :: [])) (sf4_1 s0 s1 s2 s3)) ?_
          refine lv_astore (lv' := [(6, .ref s1), (0, .ref h0), (1, .int 1), (2, .int a2), (3, .int 1), (4, .int a4), (5, .int a5)]) hx hb dX9_paste_25 hl (by decide) rfl (fun ls hl => ?_)
          refine lv_aload_n hx hb dX9_paste_27 rfl (lv_at hl 1 rfl) ?_
          refine va_get (D := (dC, dI)) (ci := 7) (v := .ref sl) (C := RX9) (T := TX9) (N := 10) hx hb hts iX9_paste_X9 hown hK hP 0 rfl rfl 6 (by decide) (hts (.fieldLink RX9 50 "LuckyTicket" "slots" "[LLuckyTicket$Row;") (List.mem_of_getElem? (i := 6) rfl)) (fun _ h9 => h9) rfl dX9_paste_28 ?_
          refine lv_iload_n hx hb dX9_paste_31 rfl (lv_at hl 4 rfl) ?_
          refine va_aldq hx hb hK hP 1 0 rfl rfl (vp_in_lit (by decide)) dX9_paste_32 ?_
          refine W.eq (g2 := F0 m 33 ls (.ref s1 :: [])) (congrArg (fun v => F0 m 33 ls (va_rf v :: [])) (sf4_1 s0 s1 s2 s3)) ?_
          refine lv_astore (lv' := [(7, .ref s1), (6, .ref s1), (0, .ref h0), (1, .int 1), (2, .int a2), (3, .int 1), (4, .int a4), (5, .int a5)]) hx hb dX9_paste_33 hl (by decide) rfl (fun ls hl => ?_)
          refine lv_aload hx hb dX9_paste_35 (lv_at hl 1 rfl) ?_
          refine vp_callSi (W.runV (As := []) (rest := []) ⟨hx, hb, hml, hown, hts⟩ (kX3_stands l dC dI s1 n1) (cwV 0 hts gX9_paste__X3_stands_V270 rfl rfl rfl (by decide +kernel) ⟨lel 1 2 rfl, lel 20 43 rfl⟩) ⟨pw_fb, va_recv hK hP (ci := 2) (q0 := 3) rfl rfl, (pw_use hP hK hN [3] rfl [] rfl)⟩ rfl rfl hl.1 rfl (lv_room (Nat.le_of_ble_eq_true rfl)) dX9_paste_37 ⟨lel 0 0 rfl, lel 0 0 rfl⟩) (fun r_15 hr_15 => ?_)
          obtain rfl : r_15 = 0 := hr_15
          refine lv_if_eq (tgt := 51) hx hb dX9_paste_40 (by decide) (fun _ => ?_) (fun c_16 => absurd c_16 (by decide))
          refine lv_bipush (v := (-6)) hx hb dX9_paste_51 (by decide) ?_
          exact W.iret (v := (-6)) hx hb hr (fun t ht hW => ⟨(-6), rfl, (by decide), ht⟩) t_nil dX9_paste_53
        ·
          refine lv_aload_n hx hb dX9_paste_19 rfl (lv_at hl 0 rfl) ?_
          refine va_get (D := (dC, dI)) (ci := 7) (v := .ref sl) (C := RX9) (T := TX9) (N := 10) hx hb hts iX9_paste_X9 hown hK hP 0 rfl rfl 6 (by decide) (hts (.fieldLink RX9 50 "LuckyTicket" "slots" "[LLuckyTicket$Row;") (List.mem_of_getElem? (i := 6) rfl)) (fun _ h9 => h9) rfl dX9_paste_20 ?_
          refine lv_iload_n hx hb dX9_paste_23 rfl (lv_at hl 1 rfl) ?_
          refine va_aldq hx hb hK hP 1 0 rfl rfl (vp_in_lit (by decide)) dX9_paste_24 ?_
          refine W.eq (g2 := F0 m 25 ls (.ref s1 :: [])) (congrArg (fun v => F0 m 25 ls (va_rf v :: [])) (sf4_1 s0 s1 s2 s3)) ?_
          refine lv_astore (lv' := [(6, .ref s1), (0, .ref h0), (1, .int 1), (2, .int a2), (3, .int 2), (4, .int a4), (5, .int a5)]) hx hb dX9_paste_25 hl (by decide) rfl (fun ls hl => ?_)
          refine lv_aload_n hx hb dX9_paste_27 rfl (lv_at hl 1 rfl) ?_
          refine va_get (D := (dC, dI)) (ci := 7) (v := .ref sl) (C := RX9) (T := TX9) (N := 10) hx hb hts iX9_paste_X9 hown hK hP 0 rfl rfl 6 (by decide) (hts (.fieldLink RX9 50 "LuckyTicket" "slots" "[LLuckyTicket$Row;") (List.mem_of_getElem? (i := 6) rfl)) (fun _ h9 => h9) rfl dX9_paste_28 ?_
          refine lv_iload_n hx hb dX9_paste_31 rfl (lv_at hl 4 rfl) ?_
          refine va_aldq hx hb hK hP 1 0 rfl rfl (vp_in_lit (by decide)) dX9_paste_32 ?_
          refine W.eq (g2 := F0 m 33 ls (.ref s2 :: [])) (congrArg (fun v => F0 m 33 ls (va_rf v :: [])) (sf4_2 s0 s1 s2 s3)) ?_
          refine lv_astore (lv' := [(7, .ref s2), (6, .ref s1), (0, .ref h0), (1, .int 1), (2, .int a2), (3, .int 2), (4, .int a4), (5, .int a5)]) hx hb dX9_paste_33 hl (by decide) rfl (fun ls hl => ?_)
          refine lv_aload hx hb dX9_paste_35 (lv_at hl 1 rfl) ?_
          refine vp_callSi (W.runV (As := []) (rest := []) ⟨hx, hb, hml, hown, hts⟩ (kX3_stands l dC dI s1 n1) (cwV 0 hts gX9_paste__X3_stands_V270 rfl rfl rfl (by decide +kernel) ⟨lel 1 2 rfl, lel 20 43 rfl⟩) ⟨pw_fb, va_recv hK hP (ci := 2) (q0 := 3) rfl rfl, (pw_use hP hK hN [3] rfl [] rfl)⟩ rfl rfl hl.1 rfl (lv_room (Nat.le_of_ble_eq_true rfl)) dX9_paste_37 ⟨lel 0 0 rfl, lel 0 0 rfl⟩) (fun r_17 hr_17 => ?_)
          obtain rfl : r_17 = 0 := hr_17
          refine lv_if_eq (tgt := 51) hx hb dX9_paste_40 (by decide) (fun _ => ?_) (fun c_18 => absurd c_18 (by decide))
          refine lv_bipush (v := (-6)) hx hb dX9_paste_51 (by decide) ?_
          exact W.iret (v := (-6)) hx hb hr (fun t ht hW => ⟨(-6), rfl, (by decide), ht⟩) t_nil dX9_paste_53
        ·
          refine lv_aload_n hx hb dX9_paste_19 rfl (lv_at hl 0 rfl) ?_
          refine va_get (D := (dC, dI)) (ci := 7) (v := .ref sl) (C := RX9) (T := TX9) (N := 10) hx hb hts iX9_paste_X9 hown hK hP 0 rfl rfl 6 (by decide) (hts (.fieldLink RX9 50 "LuckyTicket" "slots" "[LLuckyTicket$Row;") (List.mem_of_getElem? (i := 6) rfl)) (fun _ h9 => h9) rfl dX9_paste_20 ?_
          refine lv_iload_n hx hb dX9_paste_23 rfl (lv_at hl 1 rfl) ?_
          refine va_aldq hx hb hK hP 1 0 rfl rfl (vp_in_lit (by decide)) dX9_paste_24 ?_
          refine W.eq (g2 := F0 m 25 ls (.ref s1 :: [])) (congrArg (fun v => F0 m 25 ls (va_rf v :: [])) (sf4_1 s0 s1 s2 s3)) ?_
          refine lv_astore (lv' := [(6, .ref s1), (0, .ref h0), (1, .int 1), (2, .int a2), (3, .int 3), (4, .int a4), (5, .int a5)]) hx hb dX9_paste_25 hl (by decide) rfl (fun ls hl => ?_)
          refine lv_aload_n hx hb dX9_paste_27 rfl (lv_at hl 1 rfl) ?_
          refine va_get (D := (dC, dI)) (ci := 7) (v := .ref sl) (C := RX9) (T := TX9) (N := 10) hx hb hts iX9_paste_X9 hown hK hP 0 rfl rfl 6 (by decide) (hts (.fieldLink RX9 50 "LuckyTicket" "slots" "[LLuckyTicket$Row;") (List.mem_of_getElem? (i := 6) rfl)) (fun _ h9 => h9) rfl dX9_paste_28 ?_
          refine lv_iload_n hx hb dX9_paste_31 rfl (lv_at hl 4 rfl) ?_
          refine va_aldq hx hb hK hP 1 0 rfl rfl (vp_in_lit (by decide)) dX9_paste_32 ?_
          refine W.eq (g2 := F0 m 33 ls (.ref s3 :: [])) (congrArg (fun v => F0 m 33 ls (va_rf v :: [])) (sf4_3 s0 s1 s2 s3)) ?_
          refine lv_astore (lv' := [(7, .ref s3), (6, .ref s1), (0, .ref h0), (1, .int 1), (2, .int a2), (3, .int 3), (4, .int a4), (5, .int a5)]) hx hb dX9_paste_33 hl (by decide) rfl (fun ls hl => ?_)
          refine lv_aload hx hb dX9_paste_35 (lv_at hl 1 rfl) ?_
          refine vp_callSi (W.runV (As := []) (rest := []) ⟨hx, hb, hml, hown, hts⟩ (kX3_stands l dC dI s1 n1) (cwV 0 hts gX9_paste__X3_stands_V270 rfl rfl rfl (by decide +kernel) ⟨lel 1 2 rfl, lel 20 43 rfl⟩) ⟨pw_fb, va_recv hK hP (ci := 2) (q0 := 3) rfl rfl, (pw_use hP hK hN [3] rfl [] rfl)⟩ rfl rfl hl.1 rfl (lv_room (Nat.le_of_ble_eq_true rfl)) dX9_paste_37 ⟨lel 0 0 rfl, lel 0 0 rfl⟩) (fun r_19 hr_19 => ?_)
          obtain rfl : r_19 = 0 := hr_19
          refine lv_if_eq (tgt := 51) hx hb dX9_paste_40 (by decide) (fun _ => ?_) (fun c_20 => absurd c_20 (by decide))
          refine lv_bipush (v := (-6)) hx hb dX9_paste_51 (by decide) ?_
          exact W.iret (v := (-6)) hx hb hr (fun t ht hW => ⟨(-6), rfl, (by decide), ht⟩) t_nil dX9_paste_53
      ·
        rcases wi_4 (fun e => c_4 (hr_3.trans e)) with rfl | rfl | rfl | rfl
        ·
          refine lv_aload_n hx hb dX9_paste_19 rfl (lv_at hl 0 rfl) ?_
          refine va_get (D := (dC, dI)) (ci := 7) (v := .ref sl) (C := RX9) (T := TX9) (N := 10) hx hb hts iX9_paste_X9 hown hK hP 0 rfl rfl 6 (by decide) (hts (.fieldLink RX9 50 "LuckyTicket" "slots" "[LLuckyTicket$Row;") (List.mem_of_getElem? (i := 6) rfl)) (fun _ h9 => h9) rfl dX9_paste_20 ?_
          refine lv_iload_n hx hb dX9_paste_23 rfl (lv_at hl 1 rfl) ?_
          refine va_aldq hx hb hK hP 1 0 rfl rfl (vp_in_lit (by decide)) dX9_paste_24 ?_
          refine W.eq (g2 := F0 m 25 ls (.ref s2 :: [])) (congrArg (fun v => F0 m 25 ls (va_rf v :: [])) (sf4_2 s0 s1 s2 s3)) ?_
          refine lv_astore (lv' := [(6, .ref s2), (0, .ref h0), (1, .int 2), (2, .int a2), (3, .int 0), (4, .int a4), (5, .int a5)]) hx hb dX9_paste_25 hl (by decide) rfl (fun ls hl => ?_)
          refine lv_aload_n hx hb dX9_paste_27 rfl (lv_at hl 1 rfl) ?_
          refine va_get (D := (dC, dI)) (ci := 7) (v := .ref sl) (C := RX9) (T := TX9) (N := 10) hx hb hts iX9_paste_X9 hown hK hP 0 rfl rfl 6 (by decide) (hts (.fieldLink RX9 50 "LuckyTicket" "slots" "[LLuckyTicket$Row;") (List.mem_of_getElem? (i := 6) rfl)) (fun _ h9 => h9) rfl dX9_paste_28 ?_
          refine lv_iload_n hx hb dX9_paste_31 rfl (lv_at hl 4 rfl) ?_
          refine va_aldq hx hb hK hP 1 0 rfl rfl (vp_in_lit (by decide)) dX9_paste_32 ?_
          refine W.eq (g2 := F0 m 33 ls (.ref s0 :: [])) (congrArg (fun v => F0 m 33 ls (va_rf v :: [])) (sf4_0 s0 s1 s2 s3)) ?_
          refine lv_astore (lv' := [(7, .ref s0), (6, .ref s2), (0, .ref h0), (1, .int 2), (2, .int a2), (3, .int 0), (4, .int a4), (5, .int a5)]) hx hb dX9_paste_33 hl (by decide) rfl (fun ls hl => ?_)
          refine lv_aload hx hb dX9_paste_35 (lv_at hl 1 rfl) ?_
          refine vp_callSi (W.runV (As := []) (rest := []) ⟨hx, hb, hml, hown, hts⟩ (kX3_stands l dC dI s2 n2) (cwV 0 hts gX9_paste__X3_stands_V270 rfl rfl rfl (by decide +kernel) ⟨lel 1 2 rfl, lel 20 43 rfl⟩) ⟨pw_fb, va_recv hK hP (ci := 2) (q0 := 4) rfl rfl, (pw_use hP hK hN [4] rfl [] rfl)⟩ rfl rfl hl.1 rfl (lv_room (Nat.le_of_ble_eq_true rfl)) dX9_paste_37 ⟨lel 0 0 rfl, lel 0 0 rfl⟩) (fun r_21 hr_21 => ?_)
          obtain rfl : r_21 = 0 := hr_21
          refine lv_if_eq (tgt := 51) hx hb dX9_paste_40 (by decide) (fun _ => ?_) (fun c_22 => absurd c_22 (by decide))
          refine lv_bipush (v := (-6)) hx hb dX9_paste_51 (by decide) ?_
          exact W.iret (v := (-6)) hx hb hr (fun t ht hW => ⟨(-6), rfl, (by decide), ht⟩) t_nil dX9_paste_53
        ·
          refine lv_aload_n hx hb dX9_paste_19 rfl (lv_at hl 0 rfl) ?_
          refine va_get (D := (dC, dI)) (ci := 7) (v := .ref sl) (C := RX9) (T := TX9) (N := 10) hx hb hts iX9_paste_X9 hown hK hP 0 rfl rfl 6 (by decide) (hts (.fieldLink RX9 50 "LuckyTicket" "slots" "[LLuckyTicket$Row;") (List.mem_of_getElem? (i := 6) rfl)) (fun _ h9 => h9) rfl dX9_paste_20 ?_
          refine lv_iload_n hx hb dX9_paste_23 rfl (lv_at hl 1 rfl) ?_
          refine va_aldq hx hb hK hP 1 0 rfl rfl (vp_in_lit (by decide)) dX9_paste_24 ?_
          refine W.eq (g2 := F0 m 25 ls (.ref s2 :: [])) (congrArg (fun v => F0 m 25 ls (va_rf v :: [])) (sf4_2 s0 s1 s2 s3)) ?_
          refine lv_astore (lv' := [(6, .ref s2), (0, .ref h0), (1, .int 2), (2, .int a2), (3, .int 1), (4, .int a4), (5, .int a5)]) hx hb dX9_paste_25 hl (by decide) rfl (fun ls hl => ?_)
          refine lv_aload_n hx hb dX9_paste_27 rfl (lv_at hl 1 rfl) ?_
          refine va_get (D := (dC, dI)) (ci := 7) (v := .ref sl) (C := RX9) (T := TX9) (N := 10) hx hb hts iX9_paste_X9 hown hK hP 0 rfl rfl 6 (by decide) (hts (.fieldLink RX9 50 "LuckyTicket" "slots" "[LLuckyTicket$Row;") (List.mem_of_getElem? (i := 6) rfl)) (fun _ h9 => h9) rfl dX9_paste_28 ?_
          refine lv_iload_n hx hb dX9_paste_31 rfl (lv_at hl 4 rfl) ?_
          refine va_aldq hx hb hK hP 1 0 rfl rfl (vp_in_lit (by decide)) dX9_paste_32 ?_
          refine W.eq (g2 := F0 m 33 ls (.ref s1 :: [])) (congrArg (fun v => F0 m 33 ls (va_rf v :: [])) (sf4_1 s0 s1 s2 s3)) ?_
          refine lv_astore (lv' := [(7, .ref s1), (6, .ref s2), (0, .ref h0), (1, .int 2), (2, .int a2), (3, .int 1), (4, .int a4), (5, .int a5)]) hx hb dX9_paste_33 hl (by decide) rfl (fun ls hl => ?_)
          refine lv_aload hx hb dX9_paste_35 (lv_at hl 1 rfl) ?_
          refine vp_callSi (W.runV (As := []) (rest := []) ⟨hx, hb, hml, hown, hts⟩ (kX3_stands l dC dI s2 n2) (cwV 0 hts gX9_paste__X3_stands_V270 rfl rfl rfl (by decide +kernel) ⟨lel 1 2 rfl, lel 20 43 rfl⟩) ⟨pw_fb, va_recv hK hP (ci := 2) (q0 := 4) rfl rfl, (pw_use hP hK hN [4] rfl [] rfl)⟩ rfl rfl hl.1 rfl (lv_room (Nat.le_of_ble_eq_true rfl)) dX9_paste_37 ⟨lel 0 0 rfl, lel 0 0 rfl⟩) (fun r_23 hr_23 => ?_)
          obtain rfl : r_23 = 0 := hr_23
          refine lv_if_eq (tgt := 51) hx hb dX9_paste_40 (by decide) (fun _ => ?_) (fun c_24 => absurd c_24 (by decide))
          refine lv_bipush (v := (-6)) hx hb dX9_paste_51 (by decide) ?_
          exact W.iret (v := (-6)) hx hb hr (fun t ht hW => ⟨(-6), rfl, (by decide), ht⟩) t_nil dX9_paste_53
        ·
          refine lv_aload_n hx hb dX9_paste_19 rfl (lv_at hl 0 rfl) ?_
          refine va_get (D := (dC, dI)) (ci := 7) (v := .ref sl) (C := RX9) (T := TX9) (N := 10) hx hb hts iX9_paste_X9 hown hK hP 0 rfl rfl 6 (by decide) (hts (.fieldLink RX9 50 "LuckyTicket" "slots" "[LLuckyTicket$Row;") (List.mem_of_getElem? (i := 6) rfl)) (fun _ h9 => h9) rfl dX9_paste_20 ?_
          refine lv_iload_n hx hb dX9_paste_23 rfl (lv_at hl 1 rfl) ?_
          refine va_aldq hx hb hK hP 1 0 rfl rfl (vp_in_lit (by decide)) dX9_paste_24 ?_
          refine W.eq (g2 := F0 m 25 ls (.ref s2 :: [])) (congrArg (fun v => F0 m 25 ls (va_rf v :: [])) (sf4_2 s0 s1 s2 s3)) ?_
          refine lv_astore (lv' := [(6, .ref s2), (0, .ref h0), (1, .int 2), (2, .int a2), (3, .int 2), (4, .int a4), (5, .int a5)]) hx hb dX9_paste_25 hl (by decide) rfl (fun ls hl => ?_)
          refine lv_aload_n hx hb dX9_paste_27 rfl (lv_at hl 1 rfl) ?_
          refine va_get (D := (dC, dI)) (ci := 7) (v := .ref sl) (C := RX9) (T := TX9) (N := 10) hx hb hts iX9_paste_X9 hown hK hP 0 rfl rfl 6 (by decide) (hts (.fieldLink RX9 50 "LuckyTicket" "slots" "[LLuckyTicket$Row;") (List.mem_of_getElem? (i := 6) rfl)) (fun _ h9 => h9) rfl dX9_paste_28 ?_
          refine lv_iload_n hx hb dX9_paste_31 rfl (lv_at hl 4 rfl) ?_
          refine va_aldq hx hb hK hP 1 0 rfl rfl (vp_in_lit (by decide)) dX9_paste_32 ?_
          refine W.eq (g2 := F0 m 33 ls (.ref s2 :: [])) (congrArg (fun v => F0 m 33 ls (va_rf v :: [])) (sf4_2 s0 s1 s2 s3)) ?_
          refine lv_astore (lv' := [(7, .ref s2), (6, .ref s2), (0, .ref h0), (1, .int 2), (2, .int a2), (3, .int 2), (4, .int a4), (5, .int a5)]) hx hb dX9_paste_33 hl (by decide) rfl (fun ls hl => ?_)
          refine lv_aload hx hb dX9_paste_35 (lv_at hl 1 rfl) ?_
          refine vp_callSi (W.runV (As := []) (rest := []) ⟨hx, hb, hml, hown, hts⟩ (kX3_stands l dC dI s2 n2) (cwV 0 hts gX9_paste__X3_stands_V270 rfl rfl rfl (by decide +kernel) ⟨lel 1 2 rfl, lel 20 43 rfl⟩) ⟨pw_fb, va_recv hK hP (ci := 2) (q0 := 4) rfl rfl, (pw_use hP hK hN [4] rfl [] rfl)⟩ rfl rfl hl.1 rfl (lv_room (Nat.le_of_ble_eq_true rfl)) dX9_paste_37 ⟨lel 0 0 rfl, lel 0 0 rfl⟩) (fun r_25 hr_25 => ?_)
          obtain rfl : r_25 = 0 := hr_25
          refine lv_if_eq (tgt := 51) hx hb dX9_paste_40 (by decide) (fun _ => ?_) (fun c_26 => absurd c_26 (by decide))
          refine lv_bipush (v := (-6)) hx hb dX9_paste_51 (by decide) ?_
          exact W.iret (v := (-6)) hx hb hr (fun t ht hW => ⟨(-6), rfl, (by decide), ht⟩) t_nil dX9_paste_53
        ·
          refine lv_aload_n hx hb dX9_paste_19 rfl (lv_at hl 0 rfl) ?_
          refine va_get (D := (dC, dI)) (ci := 7) (v := .ref sl) (C := RX9) (T := TX9) (N := 10) hx hb hts iX9_paste_X9 hown hK hP 0 rfl rfl 6 (by decide) (hts (.fieldLink RX9 50 "LuckyTicket" "slots" "[LLuckyTicket$Row;") (List.mem_of_getElem? (i := 6) rfl)) (fun _ h9 => h9) rfl dX9_paste_20 ?_
          refine lv_iload_n hx hb dX9_paste_23 rfl (lv_at hl 1 rfl) ?_
          refine va_aldq hx hb hK hP 1 0 rfl rfl (vp_in_lit (by decide)) dX9_paste_24 ?_
          refine W.eq (g2 := F0 m 25 ls (.ref s2 :: [])) (congrArg (fun v => F0 m 25 ls (va_rf v :: [])) (sf4_2 s0 s1 s2 s3)) ?_
          refine lv_astore (lv' := [(6, .ref s2), (0, .ref h0), (1, .int 2), (2, .int a2), (3, .int 3), (4, .int a4), (5, .int a5)]) hx hb dX9_paste_25 hl (by decide) rfl (fun ls hl => ?_)
          refine lv_aload_n hx hb dX9_paste_27 rfl (lv_at hl 1 rfl) ?_
          refine va_get (D := (dC, dI)) (ci := 7) (v := .ref sl) (C := RX9) (T := TX9) (N := 10) hx hb hts iX9_paste_X9 hown hK hP 0 rfl rfl 6 (by decide) (hts (.fieldLink RX9 50 "LuckyTicket" "slots" "[LLuckyTicket$Row;") (List.mem_of_getElem? (i := 6) rfl)) (fun _ h9 => h9) rfl dX9_paste_28 ?_
          refine lv_iload_n hx hb dX9_paste_31 rfl (lv_at hl 4 rfl) ?_
          refine va_aldq hx hb hK hP 1 0 rfl rfl (vp_in_lit (by decide)) dX9_paste_32 ?_
          refine W.eq (g2 := F0 m 33 ls (.ref s3 :: [])) (congrArg (fun v => F0 m 33 ls (va_rf v :: [])) (sf4_3 s0 s1 s2 s3)) ?_
          refine lv_astore (lv' := [(7, .ref s3), (6, .ref s2), (0, .ref h0), (1, .int 2), (2, .int a2), (3, .int 3), (4, .int a4), (5, .int a5)]) hx hb dX9_paste_33 hl (by decide) rfl (fun ls hl => ?_)
          refine lv_aload hx hb dX9_paste_35 (lv_at hl 1 rfl) ?_
          refine vp_callSi (W.runV (As := []) (rest := []) ⟨hx, hb, hml, hown, hts⟩ (kX3_stands l dC dI s2 n2) (cwV 0 hts gX9_paste__X3_stands_V270 rfl rfl rfl (by decide +kernel) ⟨lel 1 2 rfl, lel 20 43 rfl⟩) ⟨pw_fb, va_recv hK hP (ci := 2) (q0 := 4) rfl rfl, (pw_use hP hK hN [4] rfl [] rfl)⟩ rfl rfl hl.1 rfl (lv_room (Nat.le_of_ble_eq_true rfl)) dX9_paste_37 ⟨lel 0 0 rfl, lel 0 0 rfl⟩) (fun r_27 hr_27 => ?_)
          obtain rfl : r_27 = 0 := hr_27
          refine lv_if_eq (tgt := 51) hx hb dX9_paste_40 (by decide) (fun _ => ?_) (fun c_28 => absurd c_28 (by decide))
          refine lv_bipush (v := (-6)) hx hb dX9_paste_51 (by decide) ?_
          exact W.iret (v := (-6)) hx hb hr (fun t ht hW => ⟨(-6), rfl, (by decide), ht⟩) t_nil dX9_paste_53
      ·
        rcases wi_4 (fun e => c_4 (hr_3.trans e)) with rfl | rfl | rfl | rfl
        ·
          refine lv_aload_n hx hb dX9_paste_19 rfl (lv_at hl 0 rfl) ?_
          refine va_get (D := (dC, dI)) (ci := 7) (v := .ref sl) (C := RX9) (T := TX9) (N := 10) hx hb hts iX9_paste_X9 hown hK hP 0 rfl rfl 6 (by decide) (hts (.fieldLink RX9 50 "LuckyTicket" "slots" "[LLuckyTicket$Row;") (List.mem_of_getElem? (i := 6) rfl)) (fun _ h9 => h9) rfl dX9_paste_20 ?_
          refine lv_iload_n hx hb dX9_paste_23 rfl (lv_at hl 1 rfl) ?_
          refine va_aldq hx hb hK hP 1 0 rfl rfl (vp_in_lit (by decide)) dX9_paste_24 ?_
          refine W.eq (g2 := F0 m 25 ls (.ref s3 :: [])) (congrArg (fun v => F0 m 25 ls (va_rf v :: [])) (sf4_3 s0 s1 s2 s3)) ?_
          refine lv_astore (lv' := [(6, .ref s3), (0, .ref h0), (1, .int 3), (2, .int a2), (3, .int 0), (4, .int a4), (5, .int a5)]) hx hb dX9_paste_25 hl (by decide) rfl (fun ls hl => ?_)
          refine lv_aload_n hx hb dX9_paste_27 rfl (lv_at hl 1 rfl) ?_
          refine va_get (D := (dC, dI)) (ci := 7) (v := .ref sl) (C := RX9) (T := TX9) (N := 10) hx hb hts iX9_paste_X9 hown hK hP 0 rfl rfl 6 (by decide) (hts (.fieldLink RX9 50 "LuckyTicket" "slots" "[LLuckyTicket$Row;") (List.mem_of_getElem? (i := 6) rfl)) (fun _ h9 => h9) rfl dX9_paste_28 ?_
          refine lv_iload_n hx hb dX9_paste_31 rfl (lv_at hl 4 rfl) ?_
          refine va_aldq hx hb hK hP 1 0 rfl rfl (vp_in_lit (by decide)) dX9_paste_32 ?_
          refine W.eq (g2 := F0 m 33 ls (.ref s0 :: [])) (congrArg (fun v => F0 m 33 ls (va_rf v :: [])) (sf4_0 s0 s1 s2 s3)) ?_
          refine lv_astore (lv' := [(7, .ref s0), (6, .ref s3), (0, .ref h0), (1, .int 3), (2, .int a2), (3, .int 0), (4, .int a4), (5, .int a5)]) hx hb dX9_paste_33 hl (by decide) rfl (fun ls hl => ?_)
          refine lv_aload hx hb dX9_paste_35 (lv_at hl 1 rfl) ?_
          refine vp_callSi (W.runV (As := []) (rest := []) ⟨hx, hb, hml, hown, hts⟩ (kX3_stands l dC dI s3 n3) (cwV 0 hts gX9_paste__X3_stands_V270 rfl rfl rfl (by decide +kernel) ⟨lel 1 2 rfl, lel 20 43 rfl⟩) ⟨pw_fb, va_recv hK hP (ci := 2) (q0 := 5) rfl rfl, (pw_use hP hK hN [5] rfl [] rfl)⟩ rfl rfl hl.1 rfl (lv_room (Nat.le_of_ble_eq_true rfl)) dX9_paste_37 ⟨lel 0 0 rfl, lel 0 0 rfl⟩) (fun r_29 hr_29 => ?_)
          obtain rfl : r_29 = 0 := hr_29
          refine lv_if_eq (tgt := 51) hx hb dX9_paste_40 (by decide) (fun _ => ?_) (fun c_30 => absurd c_30 (by decide))
          refine lv_bipush (v := (-6)) hx hb dX9_paste_51 (by decide) ?_
          exact W.iret (v := (-6)) hx hb hr (fun t ht hW => ⟨(-6), rfl, (by decide), ht⟩) t_nil dX9_paste_53
        ·
          refine lv_aload_n hx hb dX9_paste_19 rfl (lv_at hl 0 rfl) ?_
          refine va_get (D := (dC, dI)) (ci := 7) (v := .ref sl) (C := RX9) (T := TX9) (N := 10) hx hb hts iX9_paste_X9 hown hK hP 0 rfl rfl 6 (by decide) (hts (.fieldLink RX9 50 "LuckyTicket" "slots" "[LLuckyTicket$Row;") (List.mem_of_getElem? (i := 6) rfl)) (fun _ h9 => h9) rfl dX9_paste_20 ?_
          refine lv_iload_n hx hb dX9_paste_23 rfl (lv_at hl 1 rfl) ?_
          refine va_aldq hx hb hK hP 1 0 rfl rfl (vp_in_lit (by decide)) dX9_paste_24 ?_
          refine W.eq (g2 := F0 m 25 ls (.ref s3 :: [])) (congrArg (fun v => F0 m 25 ls (va_rf v :: [])) (sf4_3 s0 s1 s2 s3)) ?_
          refine lv_astore (lv' := [(6, .ref s3), (0, .ref h0), (1, .int 3), (2, .int a2), (3, .int 1), (4, .int a4), (5, .int a5)]) hx hb dX9_paste_25 hl (by decide) rfl (fun ls hl => ?_)
          refine lv_aload_n hx hb dX9_paste_27 rfl (lv_at hl 1 rfl) ?_
          refine va_get (D := (dC, dI)) (ci := 7) (v := .ref sl) (C := RX9) (T := TX9) (N := 10) hx hb hts iX9_paste_X9 hown hK hP 0 rfl rfl 6 (by decide) (hts (.fieldLink RX9 50 "LuckyTicket" "slots" "[LLuckyTicket$Row;") (List.mem_of_getElem? (i := 6) rfl)) (fun _ h9 => h9) rfl dX9_paste_28 ?_
          refine lv_iload_n hx hb dX9_paste_31 rfl (lv_at hl 4 rfl) ?_
          refine va_aldq hx hb hK hP 1 0 rfl rfl (vp_in_lit (by decide)) dX9_paste_32 ?_
          refine W.eq (g2 := F0 m 33 ls (.ref s1 :: [])) (congrArg (fun v => F0 m 33 ls (va_rf v :: [])) (sf4_1 s0 s1 s2 s3)) ?_
          refine lv_astore (lv' := [(7, .ref s1), (6, .ref s3), (0, .ref h0), (1, .int 3), (2, .int a2), (3, .int 1), (4, .int a4), (5, .int a5)]) hx hb dX9_paste_33 hl (by decide) rfl (fun ls hl => ?_)
          refine lv_aload hx hb dX9_paste_35 (lv_at hl 1 rfl) ?_
          refine vp_callSi (W.runV (As := []) (rest := []) ⟨hx, hb, hml, hown, hts⟩ (kX3_stands l dC dI s3 n3) (cwV 0 hts gX9_paste__X3_stands_V270 rfl rfl rfl (by decide +kernel) ⟨lel 1 2 rfl, lel 20 43 rfl⟩) ⟨pw_fb, va_recv hK hP (ci := 2) (q0 := 5) rfl rfl, (pw_use hP hK hN [5] rfl [] rfl)⟩ rfl rfl hl.1 rfl (lv_room (Nat.le_of_ble_eq_true rfl)) dX9_paste_37 ⟨lel 0 0 rfl, lel 0 0 rfl⟩) (fun r_31 hr_31 => ?_)
          obtain rfl : r_31 = 0 := hr_31
          refine lv_if_eq (tgt := 51) hx hb dX9_paste_40 (by decide) (fun _ => ?_) (fun c_32 => absurd c_32 (by decide))
          refine lv_bipush (v := (-6)) hx hb dX9_paste_51 (by decide) ?_
          exact W.iret (v := (-6)) hx hb hr (fun t ht hW => ⟨(-6), rfl, (by decide), ht⟩) t_nil dX9_paste_53
        ·
          refine lv_aload_n hx hb dX9_paste_19 rfl (lv_at hl 0 rfl) ?_
          refine va_get (D := (dC, dI)) (ci := 7) (v := .ref sl) (C := RX9) (T := TX9) (N := 10) hx hb hts iX9_paste_X9 hown hK hP 0 rfl rfl 6 (by decide) (hts (.fieldLink RX9 50 "LuckyTicket" "slots" "[LLuckyTicket$Row;") (List.mem_of_getElem? (i := 6) rfl)) (fun _ h9 => h9) rfl dX9_paste_20 ?_
          refine lv_iload_n hx hb dX9_paste_23 rfl (lv_at hl 1 rfl) ?_
          refine va_aldq hx hb hK hP 1 0 rfl rfl (vp_in_lit (by decide)) dX9_paste_24 ?_
          refine W.eq (g2 := F0 m 25 ls (.ref s3 :: [])) (congrArg (fun v => F0 m 25 ls (va_rf v :: [])) (sf4_3 s0 s1 s2 s3)) ?_
          refine lv_astore (lv' := [(6, .ref s3), (0, .ref h0), (1, .int 3), (2, .int a2), (3, .int 2), (4, .int a4), (5, .int a5)]) hx hb dX9_paste_25 hl (by decide) rfl (fun ls hl => ?_)
          refine lv_aload_n hx hb dX9_paste_27 rfl (lv_at hl 1 rfl) ?_
          refine va_get (D := (dC, dI)) (ci := 7) (v := .ref sl) (C := RX9) (T := TX9) (N := 10) hx hb hts iX9_paste_X9 hown hK hP 0 rfl rfl 6 (by decide) (hts (.fieldLink RX9 50 "LuckyTicket" "slots" "[LLuckyTicket$Row;") (List.mem_of_getElem? (i := 6) rfl)) (fun _ h9 => h9) rfl dX9_paste_28 ?_
          refine lv_iload_n hx hb dX9_paste_31 rfl (lv_at hl 4 rfl) ?_
          refine va_aldq hx hb hK hP 1 0 rfl rfl (vp_in_lit (by decide)) dX9_paste_32 ?_
          refine W.eq (g2 := F0 m 33 ls (.ref s2 :: [])) (congrArg (fun v => F0 m 33 ls (va_rf v :: [])) (sf4_2 s0 s1 s2 s3)) ?_
          refine lv_astore (lv' := [(7, .ref s2), (6, .ref s3), (0, .ref h0), (1, .int 3), (2, .int a2), (3, .int 2), (4, .int a4), (5, .int a5)]) hx hb dX9_paste_33 hl (by decide) rfl (fun ls hl => ?_)
          refine lv_aload hx hb dX9_paste_35 (lv_at hl 1 rfl) ?_
          refine vp_callSi (W.runV (As := []) (rest := []) ⟨hx, hb, hml, hown, hts⟩ (kX3_stands l dC dI s3 n3) (cwV 0 hts gX9_paste__X3_stands_V270 rfl rfl rfl (by decide +kernel) ⟨lel 1 2 rfl, lel 20 43 rfl⟩) ⟨pw_fb, va_recv hK hP (ci := 2) (q0 := 5) rfl rfl, (pw_use hP hK hN [5] rfl [] rfl)⟩ rfl rfl hl.1 rfl (lv_room (Nat.le_of_ble_eq_true rfl)) dX9_paste_37 ⟨lel 0 0 rfl, lel 0 0 rfl⟩) (fun r_33 hr_33 => ?_)
          obtain rfl : r_33 = 0 := hr_33
          refine lv_if_eq (tgt := 51) hx hb dX9_paste_40 (by decide) (fun _ => ?_) (fun c_34 => absurd c_34 (by decide))
          refine lv_bipush (v := (-6)) hx hb dX9_paste_51 (by decide) ?_
          exact W.iret (v := (-6)) hx hb hr (fun t ht hW => ⟨(-6), rfl, (by decide), ht⟩) t_nil dX9_paste_53
        ·
          refine lv_aload_n hx hb dX9_paste_19 rfl (lv_at hl 0 rfl) ?_
          refine va_get (D := (dC, dI)) (ci := 7) (v := .ref sl) (C := RX9) (T := TX9) (N := 10) hx hb hts iX9_paste_X9 hown hK hP 0 rfl rfl 6 (by decide) (hts (.fieldLink RX9 50 "LuckyTicket" "slots" "[LLuckyTicket$Row;") (List.mem_of_getElem? (i := 6) rfl)) (fun _ h9 => h9) rfl dX9_paste_20 ?_
          refine lv_iload_n hx hb dX9_paste_23 rfl (lv_at hl 1 rfl) ?_
          refine va_aldq hx hb hK hP 1 0 rfl rfl (vp_in_lit (by decide)) dX9_paste_24 ?_
          refine W.eq (g2 := F0 m 25 ls (.ref s3 :: [])) (congrArg (fun v => F0 m 25 ls (va_rf v :: [])) (sf4_3 s0 s1 s2 s3)) ?_
          refine lv_astore (lv' := [(6, .ref s3), (0, .ref h0), (1, .int 3), (2, .int a2), (3, .int 3), (4, .int a4), (5, .int a5)]) hx hb dX9_paste_25 hl (by decide) rfl (fun ls hl => ?_)
          refine lv_aload_n hx hb dX9_paste_27 rfl (lv_at hl 1 rfl) ?_
          refine va_get (D := (dC, dI)) (ci := 7) (v := .ref sl) (C := RX9) (T := TX9) (N := 10) hx hb hts iX9_paste_X9 hown hK hP 0 rfl rfl 6 (by decide) (hts (.fieldLink RX9 50 "LuckyTicket" "slots" "[LLuckyTicket$Row;") (List.mem_of_getElem? (i := 6) rfl)) (fun _ h9 => h9) rfl dX9_paste_28 ?_
          refine lv_iload_n hx hb dX9_paste_31 rfl (lv_at hl 4 rfl) ?_
          refine va_aldq hx hb hK hP 1 0 rfl rfl (vp_in_lit (by decide)) dX9_paste_32 ?_
          refine W.eq (g2 := F0 m 33 ls (.ref s3 :: [])) (congrArg (fun v => F0 m 33 ls (va_rf v :: [])) (sf4_3 s0 s1 s2 s3)) ?_
          refine lv_astore (lv' := [(7, .ref s3), (6, .ref s3), (0, .ref h0), (1, .int 3), (2, .int a2), (3, .int 3), (4, .int a4), (5, .int a5)]) hx hb dX9_paste_33 hl (by decide) rfl (fun ls hl => ?_)
          refine lv_aload hx hb dX9_paste_35 (lv_at hl 1 rfl) ?_
          refine vp_callSi (W.runV (As := []) (rest := []) ⟨hx, hb, hml, hown, hts⟩ (kX3_stands l dC dI s3 n3) (cwV 0 hts gX9_paste__X3_stands_V270 rfl rfl rfl (by decide +kernel) ⟨lel 1 2 rfl, lel 20 43 rfl⟩) ⟨pw_fb, va_recv hK hP (ci := 2) (q0 := 5) rfl rfl, (pw_use hP hK hN [5] rfl [] rfl)⟩ rfl rfl hl.1 rfl (lv_room (Nat.le_of_ble_eq_true rfl)) dX9_paste_37 ⟨lel 0 0 rfl, lel 0 0 rfl⟩) (fun r_35 hr_35 => ?_)
          obtain rfl : r_35 = 0 := hr_35
          refine lv_if_eq (tgt := 51) hx hb dX9_paste_40 (by decide) (fun _ => ?_) (fun c_36 => absurd c_36 (by decide))
          refine lv_bipush (v := (-6)) hx hb dX9_paste_51 (by decide) ?_
          exact W.iret (v := (-6)) hx hb hr (fun t ht hW => ⟨(-6), rfl, (by decide), ht⟩) t_nil dX9_paste_53
    ·
      refine lv_bipush (v := (-2)) hx hb dX9_paste_16 (by decide) ?_
      exact W.iret (v := (-2)) hx hb hr (fun t ht hW => ⟨(-2), rfl, (if_pos (Or.inr (hr_3.symm.trans c_4))).symm, ht⟩) t_nil dX9_paste_18
theorem dX10_paste_0 : decode cX10_paste 0 = .ok (.iload_n 1, 1) := by decide +kernel
theorem dX10_paste_1 : decode cX10_paste 1 = .ok (.invokestatic 369, 3) := by decide +kernel
theorem dX10_paste_4 : decode cX10_paste 4 = .ok (.ifCond .eq 10, 3) := by decide +kernel
theorem dX10_paste_7 : decode cX10_paste 7 = .ok (.iload_n 3, 1) := by decide +kernel
theorem dX10_paste_8 : decode cX10_paste 8 = .ok (.invokestatic 369, 3) := by decide +kernel
theorem dX10_paste_11 : decode cX10_paste 11 = .ok (.ifCond .ne 6, 3) := by decide +kernel
theorem dX10_paste_14 : decode cX10_paste 14 = .ok (.bipush (-2), 2) := by decide +kernel
theorem dX10_paste_16 : decode cX10_paste 16 = .ok (.ireturn, 1) := by decide +kernel
theorem dX10_paste_17 : decode cX10_paste 17 = .ok (.aload_n 0, 1) := by decide +kernel
theorem dX10_paste_18 : decode cX10_paste 18 = .ok (.getfield 65, 3) := by decide +kernel
theorem dX10_paste_21 : decode cX10_paste 21 = .ok (.iload_n 1, 1) := by decide +kernel
theorem dX10_paste_22 : decode cX10_paste 22 = .ok (.iaload, 1) := by decide +kernel
theorem dX10_paste_23 : decode cX10_paste 23 = .ok (.iconst (-1), 1) := by decide +kernel
theorem dX10_paste_24 : decode cX10_paste 24 = .ok (.if_icmp .eq 13, 3) := by decide +kernel
theorem dX10_paste_37 : decode cX10_paste 37 = .ok (.bipush (-6), 2) := by decide +kernel
theorem dX10_paste_39 : decode cX10_paste 39 = .ok (.ireturn, 1) := by decide +kernel
def uX10_paste : List Cond := .code yX10_paste cX10_paste 7 (some .int) :: ([.methodLink RX10 369 yX10_isSlot, .static yX10_isSlot, .initialized RX10, .code yX10_isSlot cX10_isSlot 1 (some .boolean), .constantLong RX10 375 (3), .methodLink RX10 82 yX10_in, .static yX10_in, .code yX10_in cX10_in 6 (some .boolean), .fieldLink RX10 65 "LuckyTicketModel" "many" "[I"] ++ wsX100)
theorem iX10_paste_X10 : ∀ w ∈ wsX100, w ∈ uX10_paste := fun _ h => List.mem_cons_of_mem _ (List.mem_append_right _ h)
set_option maxRecDepth 20000 in
theorem gX10_paste__X10_isSlot_S369 : GoodIn uX10_paste (va_wsS RX10 369 yX10_isSlot uX10_isSlot) := goodIn_p _ [4, 8] rfl (by decide +kernel)
set_option maxHeartbeats 4000000 in
set_option maxRecDepth 100000 in
theorem kX10_paste (l : Launch) (dC : Nat → ClassId) (dI : Nat → Nat → Nat) (h0 : Nat) (m_world : Nat) (m_images : Nat) (m_hasImage : Nat) (m_luck : Nat) (m_tape : Nat) (m_five : Nat) (m_fresh : Nat) (m_waits : Nat) (m_figures : Nat) (m_pile : Nat) (m_times : Nat) (m_far : Nat) (m_queue : Nat) (m_months : Nat) (m_ways : Nat) (m_waysOn : Nat) (m_many : Nat) (m_width : Nat) (m_numbers : Nat) (m_moving : Nat) (cI : ClassId) (a1 : Int32) (a2 : Int32) (a3 : Int32) (a4 : Int32) (a5 : Int32) : Met l yX10_paste uX10_paste ({ frames := 2, cells := 0, slots := 0, locals := 45 }) (va_Pc [.ref h0, .int a1, .int a2, .int a3, .int a4, .int a5] (pw (dC, dI) vwCl [(h0, .inr (8, [.int 0, .ref m_world, .ref m_images, .ref m_hasImage, .ref m_luck, .ref m_tape, .int 0, .ref m_five, .int 0, .int 0, .int 0, .int 0, .int 0, .int 0, .int (-1), .ref m_fresh, .ref m_waits, .int 0, .int 0, .int 0, .ref m_figures, .ref m_pile, .long 0, .ref m_times, .ref m_far, .ref m_queue, .ref m_months, .ref m_ways, .ref m_waysOn, .ref m_many, .ref m_width, .ref m_numbers, .ref m_moving])), (m_many, .inl (cI, 4, .inl manyF))] [(cI, .int)])) (vp_Si (fun r => r = p2 a1 a3)) 0 0 (fun _ => False) := by
  refine Met.ofW (cc := cX10_paste) (maxL := 7) (ret := (some .int)) (by decide) rfl ?_
  intro p e s m args below meth c s₁ B hml hv
  obtain ⟨rfl, hP, hK, hN⟩ := hv
  have hx := B.exec
  have hb := B.bytes
  have hr := B.returns
  have hts := atoms_spec (ws := uX10_paste) B.pre
  have hown : s.vm.findClass RX10 = some m.cls := findClass_of_methodNamed B.named
  have hlocks := B.notSynchronized
  have hl := lv_entry ([.ref h0, .int a1, .int a2, .int a3, .int a4, .int a5]) (n := 7) (Nat.le_of_ble_eq_true rfl)
  rw [lg_entry_eq]
  generalize (lg_sl ([.ref h0, .int a1, .int a2, .int a3, .int a4, .int a5]) ++ List.replicate (7 - (lg_sl ([.ref h0, .int a1, .int a2, .int a3, .int a4, .int a5])).length) Slot.unset).toArray = ls at hl ⊢
  have hl : lv_has ls 7 [(0, .ref h0), (1, .int a1), (2, .int a2), (3, .int a3), (4, .int a4), (5, .int a5)] := hl
  refine lv_iload_n hx hb dX10_paste_0 rfl (lv_at hl 1 rfl) ?_
  refine vp_callSi (W.runS (As := [.int a1]) (rest := []) ⟨hx, hb, hml, hown, hts⟩ (kX10_isSlot l dC dI a1) (va_cwS 1 hts gX10_paste__X10_isSlot_S369 rfl rfl rfl (by decide +kernel) ⟨lel 2 2 rfl, lel 45 45 rfl⟩) ⟨pn_fb, pn_use⟩ rfl rfl hl.1 rfl (lv_room (Nat.le_of_ble_eq_true rfl)) dX10_paste_1 ⟨lel 0 0 rfl, lel 0 0 rfl⟩) (fun r_1 hr_1 => ?_)
  refine lv_if_eq (tgt := 14) hx hb dX10_paste_4 (by decide) (fun c_2 => ?_) (fun c_2 => ?_)
  ·
    refine lv_bipush (v := (-2)) hx hb dX10_paste_14 (by decide) ?_
    exact W.iret (v := (-2)) hx hb hr (fun t ht hW => ⟨(-2), rfl, (if_pos (Or.inl (hr_1.symm.trans c_2))).symm, ht⟩) t_nil dX10_paste_16
  ·
    refine lv_iload_n hx hb dX10_paste_7 rfl (lv_at hl 3 rfl) ?_
    refine vp_callSi (W.runS (As := [.int a3]) (rest := []) ⟨hx, hb, hml, hown, hts⟩ (kX10_isSlot l dC dI a3) (va_cwS 1 hts gX10_paste__X10_isSlot_S369 rfl rfl rfl (by decide +kernel) ⟨lel 2 2 rfl, lel 45 45 rfl⟩) ⟨pn_fb, pn_use⟩ rfl rfl hl.1 rfl (lv_room (Nat.le_of_ble_eq_true rfl)) dX10_paste_8 ⟨lel 0 0 rfl, lel 0 0 rfl⟩) (fun r_3 hr_3 => ?_)
    refine lv_if_ne (tgt := 17) hx hb dX10_paste_11 (by decide) (fun c_4 => ?_) (fun c_4 => ?_)
    ·
      rcases wi_4 (fun e => c_2 (hr_1.trans e)) with rfl | rfl | rfl | rfl
      ·
        rcases wi_4 (fun e => c_4 (hr_3.trans e)) with rfl | rfl | rfl | rfl
        ·
          refine lv_aload_n hx hb dX10_paste_17 rfl (lv_at hl 0 rfl) ?_
          refine va_get (D := (dC, dI)) (ci := 8) (v := .ref m_many) (C := RX10) (T := TX10) (N := 33) hx hb hts iX10_paste_X10 hown hK hP 0 rfl rfl 29 (by decide) (hts (.fieldLink RX10 65 "LuckyTicketModel" "many" "[I") (List.mem_of_getElem? (i := 9) rfl)) (fun _ h9 => h9) rfl dX10_paste_18 ?_
          refine lv_iload_n hx hb dX10_paste_21 rfl (lv_at hl 1 rfl) ?_
          refine va_iald hx hb hK hP 1 0 rfl rfl (vp_in_lit (by decide)) dX10_paste_22 ?_
          refine lv_topi (fun z_5 ez_5 => ?_)
          obtain rfl : z_5 = (-1) := ez_5.trans (by decide)
          refine lv_iconst (v := (-1)) hx hb dX10_paste_23 (by decide) ?_
          refine lv_icmp_eq (tgt := 37) hx hb dX10_paste_24 (by decide) (fun _ => ?_) (fun c_6 => absurd c_6 (by decide))
          refine lv_bipush (v := (-6)) hx hb dX10_paste_37 (by decide) ?_
          exact W.iret (v := (-6)) hx hb hr (fun t ht hW => ⟨(-6), rfl, (by decide), ht⟩) t_nil dX10_paste_39
        ·
          refine lv_aload_n hx hb dX10_paste_17 rfl (lv_at hl 0 rfl) ?_
          refine va_get (D := (dC, dI)) (ci := 8) (v := .ref m_many) (C := RX10) (T := TX10) (N := 33) hx hb hts iX10_paste_X10 hown hK hP 0 rfl rfl 29 (by decide) (hts (.fieldLink RX10 65 "LuckyTicketModel" "many" "[I") (List.mem_of_getElem? (i := 9) rfl)) (fun _ h9 => h9) rfl dX10_paste_18 ?_
          refine lv_iload_n hx hb dX10_paste_21 rfl (lv_at hl 1 rfl) ?_
          refine va_iald hx hb hK hP 1 0 rfl rfl (vp_in_lit (by decide)) dX10_paste_22 ?_
          refine lv_topi (fun z_7 ez_7 => ?_)
          obtain rfl : z_7 = (-1) := ez_7.trans (by decide)
          refine lv_iconst (v := (-1)) hx hb dX10_paste_23 (by decide) ?_
          refine lv_icmp_eq (tgt := 37) hx hb dX10_paste_24 (by decide) (fun _ => ?_) (fun c_8 => absurd c_8 (by decide))
          refine lv_bipush (v := (-6)) hx hb dX10_paste_37 (by decide) ?_
          exact W.iret (v := (-6)) hx hb hr (fun t ht hW => ⟨(-6), rfl, (by decide), ht⟩) t_nil dX10_paste_39
        ·
          refine lv_aload_n hx hb dX10_paste_17 rfl (lv_at hl 0 rfl) ?_
          refine va_get (D := (dC, dI)) (ci := 8) (v := .ref m_many) (C := RX10) (T := TX10) (N := 33) hx hb hts iX10_paste_X10 hown hK hP 0 rfl rfl 29 (by decide) (hts (.fieldLink RX10 65 "LuckyTicketModel" "many" "[I") (List.mem_of_getElem? (i := 9) rfl)) (fun _ h9 => h9) rfl dX10_paste_18 ?_
          refine lv_iload_n hx hb dX10_paste_21 rfl (lv_at hl 1 rfl) ?_
          refine va_iald hx hb hK hP 1 0 rfl rfl (vp_in_lit (by decide)) dX10_paste_22 ?_
          refine lv_topi (fun z_9 ez_9 => ?_)
          obtain rfl : z_9 = (-1) := ez_9.trans (by decide)
          refine lv_iconst (v := (-1)) hx hb dX10_paste_23 (by decide) ?_
          refine lv_icmp_eq (tgt := 37) hx hb dX10_paste_24 (by decide) (fun _ => ?_) (fun c_10 => absurd c_10 (by decide))
          refine lv_bipush (v := (-6)) hx hb dX10_paste_37 (by decide) ?_
          exact W.iret (v := (-6)) hx hb hr (fun t ht hW => ⟨(-6), rfl, (by decide), ht⟩) t_nil dX10_paste_39
        ·
          refine lv_aload_n hx hb dX10_paste_17 rfl (lv_at hl 0 rfl) ?_
          refine va_get (D := (dC, dI)) (ci := 8) (v := .ref m_many) (C := RX10) (T := TX10) (N := 33) hx hb hts iX10_paste_X10 hown hK hP 0 rfl rfl 29 (by decide) (hts (.fieldLink RX10 65 "LuckyTicketModel" "many" "[I") (List.mem_of_getElem? (i := 9) rfl)) (fun _ h9 => h9) rfl dX10_paste_18 ?_
          refine lv_iload_n hx hb dX10_paste_21 rfl (lv_at hl 1 rfl) ?_
          refine va_iald hx hb hK hP 1 0 rfl rfl (vp_in_lit (by decide)) dX10_paste_22 ?_
          refine lv_topi (fun z_11 ez_11 => ?_)
          obtain rfl : z_11 = (-1) := ez_11.trans (by decide)
          refine lv_iconst (v := (-1)) hx hb dX10_paste_23 (by decide) ?_
          refine lv_icmp_eq (tgt := 37) hx hb dX10_paste_24 (by decide) (fun _ => ?_) (fun c_12 => absurd c_12 (by decide))
          refine lv_bipush (v := (-6)) hx hb dX10_paste_37 (by decide) ?_
          exact W.iret (v := (-6)) hx hb hr (fun t ht hW => ⟨(-6), rfl, (by decide), ht⟩) t_nil dX10_paste_39
      ·
        rcases wi_4 (fun e => c_4 (hr_3.trans e)) with rfl | rfl | rfl | rfl
        ·
          refine lv_aload_n hx hb dX10_paste_17 rfl (lv_at hl 0 rfl) ?_
          refine va_get (D := (dC, dI)) (ci := 8) (v := .ref m_many) (C := RX10) (T := TX10) (N := 33) hx hb hts iX10_paste_X10 hown hK hP 0 rfl rfl 29 (by decide) (hts (.fieldLink RX10 65 "LuckyTicketModel" "many" "[I") (List.mem_of_getElem? (i := 9) rfl)) (fun _ h9 => h9) rfl dX10_paste_18 ?_
          refine lv_iload_n hx hb dX10_paste_21 rfl (lv_at hl 1 rfl) ?_
          refine va_iald hx hb hK hP 1 0 rfl rfl (vp_in_lit (by decide)) dX10_paste_22 ?_
          refine lv_topi (fun z_13 ez_13 => ?_)
          obtain rfl : z_13 = (-1) := ez_13.trans (by decide)
          refine lv_iconst (v := (-1)) hx hb dX10_paste_23 (by decide) ?_
          refine lv_icmp_eq (tgt := 37) hx hb dX10_paste_24 (by decide) (fun _ => ?_) (fun c_14 => absurd c_14 (by decide))
          refine lv_bipush (v := (-6)) hx hb dX10_paste_37 (by decide) ?_
          exact W.iret (v := (-6)) hx hb hr (fun t ht hW => ⟨(-6), rfl, (by decide), ht⟩) t_nil dX10_paste_39
        ·
          refine lv_aload_n hx hb dX10_paste_17 rfl (lv_at hl 0 rfl) ?_
          refine va_get (D := (dC, dI)) (ci := 8) (v := .ref m_many) (C := RX10) (T := TX10) (N := 33) hx hb hts iX10_paste_X10 hown hK hP 0 rfl rfl 29 (by decide) (hts (.fieldLink RX10 65 "LuckyTicketModel" "many" "[I") (List.mem_of_getElem? (i := 9) rfl)) (fun _ h9 => h9) rfl dX10_paste_18 ?_
          refine lv_iload_n hx hb dX10_paste_21 rfl (lv_at hl 1 rfl) ?_
          refine va_iald hx hb hK hP 1 0 rfl rfl (vp_in_lit (by decide)) dX10_paste_22 ?_
          refine lv_topi (fun z_15 ez_15 => ?_)
          obtain rfl : z_15 = (-1) := ez_15.trans (by decide)
          refine lv_iconst (v := (-1)) hx hb dX10_paste_23 (by decide) ?_
          refine lv_icmp_eq (tgt := 37) hx hb dX10_paste_24 (by decide) (fun _ => ?_) (fun c_16 => absurd c_16 (by decide))
          refine lv_bipush (v := (-6)) hx hb dX10_paste_37 (by decide) ?_
          exact W.iret (v := (-6)) hx hb hr (fun t ht hW => ⟨(-6), rfl, (by decide), ht⟩) t_nil dX10_paste_39
        ·
          refine lv_aload_n hx hb dX10_paste_17 rfl (lv_at hl 0 rfl) ?_
          refine va_get (D := (dC, dI)) (ci := 8) (v := .ref m_many) (C := RX10) (T := TX10) (N := 33) hx hb hts iX10_paste_X10 hown hK hP 0 rfl rfl 29 (by decide) (hts (.fieldLink RX10 65 "LuckyTicketModel" "many" "[I") (List.mem_of_getElem? (i := 9) rfl)) (fun _ h9 => h9) rfl dX10_paste_18 ?_
          refine lv_iload_n hx hb dX10_paste_21 rfl (lv_at hl 1 rfl) ?_
          refine va_iald hx hb hK hP 1 0 rfl rfl (vp_in_lit (by decide)) dX10_paste_22 ?_
          refine lv_topi (fun z_17 ez_17 => ?_)
          obtain rfl : z_17 = (-1) := ez_17.trans (by decide)
          refine lv_iconst (v := (-1)) hx hb dX10_paste_23 (by decide) ?_
          refine lv_icmp_eq (tgt := 37) hx hb dX10_paste_24 (by decide) (fun _ => ?_) (fun c_18 => absurd c_18 (by decide))
          refine lv_bipush (v := (-6)) hx hb dX10_paste_37 (by decide) ?_
          exact W.iret (v := (-6)) hx hb hr (fun t ht hW => ⟨(-6), rfl, (by decide), ht⟩) t_nil dX10_paste_39
        ·
          refine lv_aload_n hx hb dX10_paste_17 rfl (lv_at hl 0 rfl) ?_
          refine va_get (D := (dC, dI)) (ci := 8) (v := .ref m_many) (C := RX10) (T := TX10) (N := 33) hx hb hts iX10_paste_X10 hown hK hP 0 rfl rfl 29 (by decide) (hts (.fieldLink RX10 65 "LuckyTicketModel" "many" "[I") (List.mem_of_getElem? (i := 9) rfl)) (fun _ h9 => h9) rfl dX10_paste_18 ?_
          refine lv_iload_n hx hb dX10_paste_21 rfl (lv_at hl 1 rfl) ?_
          refine va_iald hx hb hK hP 1 0 rfl rfl (vp_in_lit (by decide)) dX10_paste_22 ?_
          refine lv_topi (fun z_19 ez_19 => ?_)
          obtain rfl : z_19 = (-1) := ez_19.trans (by decide)
          refine lv_iconst (v := (-1)) hx hb dX10_paste_23 (by decide) ?_
          refine lv_icmp_eq (tgt := 37) hx hb dX10_paste_24 (by decide) (fun _ => ?_) (fun c_20 => absurd c_20 (by decide))
          refine lv_bipush (v := (-6)) hx hb dX10_paste_37 (by decide) ?_
          exact W.iret (v := (-6)) hx hb hr (fun t ht hW => ⟨(-6), rfl, (by decide), ht⟩) t_nil dX10_paste_39
      ·
        rcases wi_4 (fun e => c_4 (hr_3.trans e)) with rfl | rfl | rfl | rfl
        ·
          refine lv_aload_n hx hb dX10_paste_17 rfl (lv_at hl 0 rfl) ?_
          refine va_get (D := (dC, dI)) (ci := 8) (v := .ref m_many) (C := RX10) (T := TX10) (N := 33) hx hb hts iX10_paste_X10 hown hK hP 0 rfl rfl 29 (by decide) (hts (.fieldLink RX10 65 "LuckyTicketModel" "many" "[I") (List.mem_of_getElem? (i := 9) rfl)) (fun _ h9 => h9) rfl dX10_paste_18 ?_
          refine lv_iload_n hx hb dX10_paste_21 rfl (lv_at hl 1 rfl) ?_
          refine va_iald hx hb hK hP 1 0 rfl rfl (vp_in_lit (by decide)) dX10_paste_22 ?_
          refine lv_topi (fun z_21 ez_21 => ?_)
          obtain rfl : z_21 = (-1) := ez_21.trans (by decide)
          refine lv_iconst (v := (-1)) hx hb dX10_paste_23 (by decide) ?_
          refine lv_icmp_eq (tgt := 37) hx hb dX10_paste_24 (by decide) (fun _ => ?_) (fun c_22 => absurd c_22 (by decide))
          refine lv_bipush (v := (-6)) hx hb dX10_paste_37 (by decide) ?_
          exact W.iret (v := (-6)) hx hb hr (fun t ht hW => ⟨(-6), rfl, (by decide), ht⟩) t_nil dX10_paste_39
        ·
          refine lv_aload_n hx hb dX10_paste_17 rfl (lv_at hl 0 rfl) ?_
          refine va_get (D := (dC, dI)) (ci := 8) (v := .ref m_many) (C := RX10) (T := TX10) (N := 33) hx hb hts iX10_paste_X10 hown hK hP 0 rfl rfl 29 (by decide) (hts (.fieldLink RX10 65 "LuckyTicketModel" "many" "[I") (List.mem_of_getElem? (i := 9) rfl)) (fun _ h9 => h9) rfl dX10_paste_18 ?_
          refine lv_iload_n hx hb dX10_paste_21 rfl (lv_at hl 1 rfl) ?_
          refine va_iald hx hb hK hP 1 0 rfl rfl (vp_in_lit (by decide)) dX10_paste_22 ?_
          refine lv_topi (fun z_23 ez_23 => ?_)
          obtain rfl : z_23 = (-1) := ez_23.trans (by decide)
          refine lv_iconst (v := (-1)) hx hb dX10_paste_23 (by decide) ?_
          refine lv_icmp_eq (tgt := 37) hx hb dX10_paste_24 (by decide) (fun _ => ?_) (fun c_24 => absurd c_24 (by decide))
          refine lv_bipush (v := (-6)) hx hb dX10_paste_37 (by decide) ?_
          exact W.iret (v := (-6)) hx hb hr (fun t ht hW => ⟨(-6), rfl, (by decide), ht⟩) t_nil dX10_paste_39
        ·
          refine lv_aload_n hx hb dX10_paste_17 rfl (lv_at hl 0 rfl) ?_
          refine va_get (D := (dC, dI)) (ci := 8) (v := .ref m_many) (C := RX10) (T := TX10) (N := 33) hx hb hts iX10_paste_X10 hown hK hP 0 rfl rfl 29 (by decide) (hts (.fieldLink RX10 65 "LuckyTicketModel" "many" "[I") (List.mem_of_getElem? (i := 9) rfl)) (fun _ h9 => h9) rfl dX10_paste_18 ?_
          refine lv_iload_n hx hb dX10_paste_21 rfl (lv_at hl 1 rfl) ?_
          refine va_iald hx hb hK hP 1 0 rfl rfl (vp_in_lit (by decide)) dX10_paste_22 ?_
          refine lv_topi (fun z_25 ez_25 => ?_)
          obtain rfl : z_25 = (-1) := ez_25.trans (by decide)
          refine lv_iconst (v := (-1)) hx hb dX10_paste_23 (by decide) ?_
          refine lv_icmp_eq (tgt := 37) hx hb dX10_paste_24 (by decide) (fun _ => ?_) (fun c_26 => absurd c_26 (by decide))
          refine lv_bipush (v := (-6)) hx hb dX10_paste_37 (by decide) ?_
          exact W.iret (v := (-6)) hx hb hr (fun t ht hW => ⟨(-6), rfl, (by decide), ht⟩) t_nil dX10_paste_39
        ·
          refine lv_aload_n hx hb dX10_paste_17 rfl (lv_at hl 0 rfl) ?_
          refine va_get (D := (dC, dI)) (ci := 8) (v := .ref m_many) (C := RX10) (T := TX10) (N := 33) hx hb hts iX10_paste_X10 hown hK hP 0 rfl rfl 29 (by decide) (hts (.fieldLink RX10 65 "LuckyTicketModel" "many" "[I") (List.mem_of_getElem? (i := 9) rfl)) (fun _ h9 => h9) rfl dX10_paste_18 ?_
          refine lv_iload_n hx hb dX10_paste_21 rfl (lv_at hl 1 rfl) ?_
          refine va_iald hx hb hK hP 1 0 rfl rfl (vp_in_lit (by decide)) dX10_paste_22 ?_
          refine lv_topi (fun z_27 ez_27 => ?_)
          obtain rfl : z_27 = (-1) := ez_27.trans (by decide)
          refine lv_iconst (v := (-1)) hx hb dX10_paste_23 (by decide) ?_
          refine lv_icmp_eq (tgt := 37) hx hb dX10_paste_24 (by decide) (fun _ => ?_) (fun c_28 => absurd c_28 (by decide))
          refine lv_bipush (v := (-6)) hx hb dX10_paste_37 (by decide) ?_
          exact W.iret (v := (-6)) hx hb hr (fun t ht hW => ⟨(-6), rfl, (by decide), ht⟩) t_nil dX10_paste_39
      ·
        rcases wi_4 (fun e => c_4 (hr_3.trans e)) with rfl | rfl | rfl | rfl
        ·
          refine lv_aload_n hx hb dX10_paste_17 rfl (lv_at hl 0 rfl) ?_
          refine va_get (D := (dC, dI)) (ci := 8) (v := .ref m_many) (C := RX10) (T := TX10) (N := 33) hx hb hts iX10_paste_X10 hown hK hP 0 rfl rfl 29 (by decide) (hts (.fieldLink RX10 65 "LuckyTicketModel" "many" "[I") (List.mem_of_getElem? (i := 9) rfl)) (fun _ h9 => h9) rfl dX10_paste_18 ?_
          refine lv_iload_n hx hb dX10_paste_21 rfl (lv_at hl 1 rfl) ?_
          refine va_iald hx hb hK hP 1 0 rfl rfl (vp_in_lit (by decide)) dX10_paste_22 ?_
          refine lv_topi (fun z_29 ez_29 => ?_)
          obtain rfl : z_29 = (-1) := ez_29.trans (by decide)
          refine lv_iconst (v := (-1)) hx hb dX10_paste_23 (by decide) ?_
          refine lv_icmp_eq (tgt := 37) hx hb dX10_paste_24 (by decide) (fun _ => ?_) (fun c_30 => absurd c_30 (by decide))
          refine lv_bipush (v := (-6)) hx hb dX10_paste_37 (by decide) ?_
          exact W.iret (v := (-6)) hx hb hr (fun t ht hW => ⟨(-6), rfl, (by decide), ht⟩) t_nil dX10_paste_39
        ·
          refine lv_aload_n hx hb dX10_paste_17 rfl (lv_at hl 0 rfl) ?_
          refine va_get (D := (dC, dI)) (ci := 8) (v := .ref m_many) (C := RX10) (T := TX10) (N := 33) hx hb hts iX10_paste_X10 hown hK hP 0 rfl rfl 29 (by decide) (hts (.fieldLink RX10 65 "LuckyTicketModel" "many" "[I") (List.mem_of_getElem? (i := 9) rfl)) (fun _ h9 => h9) rfl dX10_paste_18 ?_
          refine lv_iload_n hx hb dX10_paste_21 rfl (lv_at hl 1 rfl) ?_
          refine va_iald hx hb hK hP 1 0 rfl rfl (vp_in_lit (by decide)) dX10_paste_22 ?_
          refine lv_topi (fun z_31 ez_31 => ?_)
          obtain rfl : z_31 = (-1) := ez_31.trans (by decide)
          refine lv_iconst (v := (-1)) hx hb dX10_paste_23 (by decide) ?_
          refine lv_icmp_eq (tgt := 37) hx hb dX10_paste_24 (by decide) (fun _ => ?_) (fun c_32 => absurd c_32 (by decide))
          refine lv_bipush (v := (-6)) hx hb dX10_paste_37 (by decide) ?_
          exact W.iret (v := (-6)) hx hb hr (fun t ht hW => ⟨(-6), rfl, (by decide), ht⟩) t_nil dX10_paste_39
        ·
          refine lv_aload_n hx hb dX10_paste_17 rfl (lv_at hl 0 rfl) ?_
          refine va_get (D := (dC, dI)) (ci := 8) (v := .ref m_many) (C := RX10) (T := TX10) (N := 33) hx hb hts iX10_paste_X10 hown hK hP 0 rfl rfl 29 (by decide) (hts (.fieldLink RX10 65 "LuckyTicketModel" "many" "[I") (List.mem_of_getElem? (i := 9) rfl)) (fun _ h9 => h9) rfl dX10_paste_18 ?_
          refine lv_iload_n hx hb dX10_paste_21 rfl (lv_at hl 1 rfl) ?_
          refine va_iald hx hb hK hP 1 0 rfl rfl (vp_in_lit (by decide)) dX10_paste_22 ?_
          refine lv_topi (fun z_33 ez_33 => ?_)
          obtain rfl : z_33 = (-1) := ez_33.trans (by decide)
          refine lv_iconst (v := (-1)) hx hb dX10_paste_23 (by decide) ?_
          refine lv_icmp_eq (tgt := 37) hx hb dX10_paste_24 (by decide) (fun _ => ?_) (fun c_34 => absurd c_34 (by decide))
          refine lv_bipush (v := (-6)) hx hb dX10_paste_37 (by decide) ?_
          exact W.iret (v := (-6)) hx hb hr (fun t ht hW => ⟨(-6), rfl, (by decide), ht⟩) t_nil dX10_paste_39
        ·
          refine lv_aload_n hx hb dX10_paste_17 rfl (lv_at hl 0 rfl) ?_
          refine va_get (D := (dC, dI)) (ci := 8) (v := .ref m_many) (C := RX10) (T := TX10) (N := 33) hx hb hts iX10_paste_X10 hown hK hP 0 rfl rfl 29 (by decide) (hts (.fieldLink RX10 65 "LuckyTicketModel" "many" "[I") (List.mem_of_getElem? (i := 9) rfl)) (fun _ h9 => h9) rfl dX10_paste_18 ?_
          refine lv_iload_n hx hb dX10_paste_21 rfl (lv_at hl 1 rfl) ?_
          refine va_iald hx hb hK hP 1 0 rfl rfl (vp_in_lit (by decide)) dX10_paste_22 ?_
          refine lv_topi (fun z_35 ez_35 => ?_)
          obtain rfl : z_35 = (-1) := ez_35.trans (by decide)
          refine lv_iconst (v := (-1)) hx hb dX10_paste_23 (by decide) ?_
          refine lv_icmp_eq (tgt := 37) hx hb dX10_paste_24 (by decide) (fun _ => ?_) (fun c_36 => absurd c_36 (by decide))
          refine lv_bipush (v := (-6)) hx hb dX10_paste_37 (by decide) ?_
          exact W.iret (v := (-6)) hx hb hr (fun t ht hW => ⟨(-6), rfl, (by decide), ht⟩) t_nil dX10_paste_39
    ·
      refine lv_bipush (v := (-2)) hx hb dX10_paste_14 (by decide) ?_
      exact W.iret (v := (-2)) hx hb hr (fun t ht hW => ⟨(-2), rfl, (if_pos (Or.inr (hr_3.symm.trans c_4))).symm, ht⟩) t_nil dX10_paste_16
theorem dX2_totalByAny_0 : decode cX2_totalByAny 0 = .ok (.iconst 0, 1) := by decide +kernel
theorem dX2_totalByAny_1 : decode cX2_totalByAny 1 = .ok (.istore_n 1, 1) := by decide +kernel
theorem dX2_totalByAny_2 : decode cX2_totalByAny 2 = .ok (.iconst 0, 1) := by decide +kernel
theorem dX2_totalByAny_3 : decode cX2_totalByAny 3 = .ok (.istore_n 2, 1) := by decide +kernel
theorem dX2_totalByAny_4 : decode cX2_totalByAny 4 = .ok (.iload_n 2, 1) := by decide +kernel
theorem dX2_totalByAny_5 : decode cX2_totalByAny 5 = .ok (.aload_n 0, 1) := by decide +kernel
theorem dX2_totalByAny_6 : decode cX2_totalByAny 6 = .ok (.getfield 42, 3) := by decide +kernel
theorem dX2_totalByAny_9 : decode cX2_totalByAny 9 = .ok (.if_icmp .ge 20, 3) := by decide +kernel
theorem dX2_totalByAny_29 : decode cX2_totalByAny 29 = .ok (.iload_n 1, 1) := by decide +kernel
theorem dX2_totalByAny_30 : decode cX2_totalByAny 30 = .ok (.ireturn, 1) := by decide +kernel
def uX2_totalByAny : List Cond := .code yX2_totalByAny cX2_totalByAny 3 (some .int) :: ([.fieldLink RX2 42 "LuckyTicket$Roll" "tickets" "I"] ++ wsX20)
theorem iX2_totalByAny_X2 : ∀ w ∈ wsX20, w ∈ uX2_totalByAny := fun _ h => List.mem_cons_of_mem _ (List.mem_append_right _ h)
set_option maxHeartbeats 4000000 in
set_option maxRecDepth 100000 in
theorem kX2_totalByAny (l : Launch) (dC : Nat → ClassId) (dI : Nat → Nat → Nat) (cu : Nat) (fa : Nat) (lu : Nat) : Met l yX2_totalByAny uX2_totalByAny ({ frames := 0, cells := 0, slots := 0, locals := 0 }) (va_Pc [.ref cu] (pw (dC, dI) vwCl [(cu, .inr (1, [.int 0, .int 0, .int 0, .int 0, .int 0, .ref fa, .ref lu]))] [])) (vp_Si (fun r => r = 0)) 0 0 (fun _ => False) := by
  refine Met.ofW (cc := cX2_totalByAny) (maxL := 3) (ret := (some .int)) (by decide) rfl ?_
  intro p e s m args below meth c s₁ B hml hv
  obtain ⟨rfl, hP, hK, hN⟩ := hv
  have hx := B.exec
  have hb := B.bytes
  have hr := B.returns
  have hts := atoms_spec (ws := uX2_totalByAny) B.pre
  have hown : s.vm.findClass RX2 = some m.cls := findClass_of_methodNamed B.named
  have hlocks := B.notSynchronized
  have hl := lv_entry ([.ref cu]) (n := 3) (Nat.le_of_ble_eq_true rfl)
  rw [lg_entry_eq]
  generalize (lg_sl ([.ref cu]) ++ List.replicate (3 - (lg_sl ([.ref cu])).length) Slot.unset).toArray = ls at hl ⊢
  have hl : lv_has ls 3 [(0, .ref cu)] := hl
  refine lv_iconst (v := 0) hx hb dX2_totalByAny_0 (by decide) ?_
  refine lv_istore_n (lv' := [(1, .int 0), (0, .ref cu)]) hx hb dX2_totalByAny_1 rfl hl (by decide) rfl (fun ls hl => ?_)
  refine lv_iconst (v := 0) hx hb dX2_totalByAny_2 (by decide) ?_
  refine lv_istore_n (lv' := [(2, .int 0), (1, .int 0), (0, .ref cu)]) hx hb dX2_totalByAny_3 rfl hl (by decide) rfl (fun ls hl => ?_)
  refine lv_iload_n hx hb dX2_totalByAny_4 rfl (lv_at hl 0 rfl) ?_
  refine lv_aload_n hx hb dX2_totalByAny_5 rfl (lv_at hl 2 rfl) ?_
  refine va_get (D := (dC, dI)) (ci := 1) (v := .int 0) (C := RX2) (T := TX2) (N := 7) hx hb hts iX2_totalByAny_X2 hown hK hP 0 rfl rfl 2 (by decide) (hts (.fieldLink RX2 42 "LuckyTicket$Roll" "tickets" "I") (List.mem_of_getElem? (i := 1) rfl)) (fun _ h9 => h9) rfl dX2_totalByAny_6 ?_
  refine lv_icmp_ge (tgt := 29) hx hb dX2_totalByAny_9 (by decide) (fun _ => ?_) (fun c_1 => absurd c_1 (by decide))
  refine lv_iload_n hx hb dX2_totalByAny_29 rfl (lv_at hl 1 rfl) ?_
  exact W.iret (v := 0) hx hb hr (fun t ht hW => ⟨0, rfl, rfl, ht⟩) t_nil dX2_totalByAny_30
theorem dX9_standingSlots_0 : decode cX9_standingSlots 0 = .ok (.iconst 0, 1) := by decide +kernel
theorem dX9_standingSlots_1 : decode cX9_standingSlots 1 = .ok (.istore_n 1, 1) := by decide +kernel
theorem dX9_standingSlots_2 : decode cX9_standingSlots 2 = .ok (.iconst 0, 1) := by decide +kernel
theorem dX9_standingSlots_3 : decode cX9_standingSlots 3 = .ok (.istore_n 2, 1) := by decide +kernel
theorem dX9_standingSlots_4 : decode cX9_standingSlots 4 = .ok (.iload_n 2, 1) := by decide +kernel
theorem dX9_standingSlots_5 : decode cX9_standingSlots 5 = .ok (.aload_n 0, 1) := by decide +kernel
theorem dX9_standingSlots_6 : decode cX9_standingSlots 6 = .ok (.getfield 50, 3) := by decide +kernel
theorem dX9_standingSlots_9 : decode cX9_standingSlots 9 = .ok (.arraylength, 1) := by decide +kernel
theorem dX9_standingSlots_10 : decode cX9_standingSlots 10 = .ok (.if_icmp .ge 24, 3) := by decide +kernel
theorem dX9_standingSlots_13 : decode cX9_standingSlots 13 = .ok (.aload_n 0, 1) := by decide +kernel
theorem dX9_standingSlots_14 : decode cX9_standingSlots 14 = .ok (.getfield 50, 3) := by decide +kernel
theorem dX9_standingSlots_17 : decode cX9_standingSlots 17 = .ok (.iload_n 2, 1) := by decide +kernel
theorem dX9_standingSlots_18 : decode cX9_standingSlots 18 = .ok (.aaload, 1) := by decide +kernel
theorem dX9_standingSlots_19 : decode cX9_standingSlots 19 = .ok (.invokevirtual 270, 3) := by decide +kernel
theorem dX9_standingSlots_22 : decode cX9_standingSlots 22 = .ok (.ifCond .eq 6, 3) := by decide +kernel
theorem dX9_standingSlots_28 : decode cX9_standingSlots 28 = .ok (.iinc 2 1, 3) := by decide +kernel
theorem dX9_standingSlots_31 : decode cX9_standingSlots 31 = .ok (.goto (-27), 3) := by decide +kernel
theorem dX9_standingSlots_34 : decode cX9_standingSlots 34 = .ok (.iload_n 1, 1) := by decide +kernel
theorem dX9_standingSlots_35 : decode cX9_standingSlots 35 = .ok (.ireturn, 1) := by decide +kernel
def uX9_standingSlots : List Cond := .code yX9_standingSlots cX9_standingSlots 3 (some .int) :: ([.fieldLink RX9 50 "LuckyTicket" "slots" "[LLuckyTicket$Row;", .methodLink RX9 270 yX3_stands, .instanceMethod yX3_stands, .selects RX3 yX3_stands yX3_stands, .initialized RX3, .code yX3_stands cX3_stands 1 (some .boolean), .fieldLink RX3 9 "LuckyTicket$Row" "width" "I"] ++ wsX90 ++ wsX30)
theorem iX9_standingSlots_X9 : ∀ w ∈ wsX90, w ∈ uX9_standingSlots := fun _ h => List.mem_cons_of_mem _ (List.mem_append_left _ (List.mem_append_right _ h))
theorem iX9_standingSlots_X3 : ∀ w ∈ wsX30, w ∈ uX9_standingSlots := fun _ h => List.mem_cons_of_mem _ (List.mem_append_right _ h)
set_option maxRecDepth 20000 in
theorem gX9_standingSlots__X3_stands_V270 : GoodIn uX9_standingSlots (wsV RX9 270 RX3 yX3_stands uX3_stands) := goodIn_p _ [6] rfl (by decide +kernel)
set_option maxHeartbeats 4000000 in
set_option maxRecDepth 100000 in
theorem kX9_standingSlots (l : Launch) (dC : Nat → ClassId) (dI : Nat → Nat → Nat) (h0 : Nat) (tp : Nat) (sc : Nat) (rd : Nat) (cu : Nat) (im : Nat) (ig : Nat) (sl : Nat) (se : Nat) (su : Nat) (fc : Nat) (cS : ClassId) (s0 : Nat) (s1 : Nat) (s2 : Nat) (s3 : Nat) (n0 : Nat) (n1 : Nat) (n2 : Nat) (n3 : Nat) : Met l yX9_standingSlots uX9_standingSlots ({ frames := 1, cells := 0, slots := 0, locals := 20 }) (va_Pc [.ref h0] (pw (dC, dI) vwCl [(h0, .inr (7, [.ref tp, .ref sc, .ref rd, .ref cu, .ref im, .ref ig, .ref sl, .ref se, .ref su, .ref fc])), (sl, .inl (cS, 4, .inr (.inr (.inr (.inr (sf4 s0 s1 s2 s3)))))), (s0, .inr (2, [.int (-1), .int 0, .ref n0])), (s1, .inr (2, [.int (-1), .int 0, .ref n1])), (s2, .inr (2, [.int (-1), .int 0, .ref n2])), (s3, .inr (2, [.int (-1), .int 0, .ref n3]))] [(cS, .object RX3)])) (vp_Si (fun r => r = 0)) 0 0 (fun _ => False) := by
  refine Met.ofW (cc := cX9_standingSlots) (maxL := 3) (ret := (some .int)) (by decide) rfl ?_
  intro p e s m args below meth c s₁ B hml hv
  obtain ⟨rfl, hP, hK, hN⟩ := hv
  have hx := B.exec
  have hb := B.bytes
  have hr := B.returns
  have hts := atoms_spec (ws := uX9_standingSlots) B.pre
  have hown : s.vm.findClass RX9 = some m.cls := findClass_of_methodNamed B.named
  have hlocks := B.notSynchronized
  have hl := lv_entry ([.ref h0]) (n := 3) (Nat.le_of_ble_eq_true rfl)
  rw [lg_entry_eq]
  generalize (lg_sl ([.ref h0]) ++ List.replicate (3 - (lg_sl ([.ref h0])).length) Slot.unset).toArray = ls at hl ⊢
  have hl : lv_has ls 3 [(0, .ref h0)] := hl
  refine lv_iconst (v := 0) hx hb dX9_standingSlots_0 (by decide) ?_
  refine lv_istore_n (lv' := [(1, .int 0), (0, .ref h0)]) hx hb dX9_standingSlots_1 rfl hl (by decide) rfl (fun ls hl => ?_)
  refine lv_iconst (v := 0) hx hb dX9_standingSlots_2 (by decide) ?_
  refine lv_istore_n (lv' := [(2, .int 0), (1, .int 0), (0, .ref h0)]) hx hb dX9_standingSlots_3 rfl hl (by decide) rfl (fun ls hl => ?_)
  refine lv_iload_n hx hb dX9_standingSlots_4 rfl (lv_at hl 0 rfl) ?_
  refine lv_aload_n hx hb dX9_standingSlots_5 rfl (lv_at hl 2 rfl) ?_
  refine va_get (D := (dC, dI)) (ci := 7) (v := .ref sl) (C := RX9) (T := TX9) (N := 10) hx hb hts iX9_standingSlots_X9 hown hK hP 0 rfl rfl 6 (by decide) (hts (.fieldLink RX9 50 "LuckyTicket" "slots" "[LLuckyTicket$Row;") (List.mem_of_getElem? (i := 1) rfl)) (fun _ h9 => h9) rfl dX9_standingSlots_6 ?_
  refine va_alen (v := 4) hx hb hK hP 1 0 rfl rfl (by rfl) dX9_standingSlots_9 ?_
  refine lv_icmp_ge (tgt := 34) hx hb dX9_standingSlots_10 (by decide) (fun c_1 => absurd c_1 (by decide)) (fun _ => ?_)
  refine lv_aload_n hx hb dX9_standingSlots_13 rfl (lv_at hl 2 rfl) ?_
  refine va_get (D := (dC, dI)) (ci := 7) (v := .ref sl) (C := RX9) (T := TX9) (N := 10) hx hb hts iX9_standingSlots_X9 hown hK hP 0 rfl rfl 6 (by decide) (hts (.fieldLink RX9 50 "LuckyTicket" "slots" "[LLuckyTicket$Row;") (List.mem_of_getElem? (i := 1) rfl)) (fun _ h9 => h9) rfl dX9_standingSlots_14 ?_
  refine lv_iload_n hx hb dX9_standingSlots_17 rfl (lv_at hl 0 rfl) ?_
  refine va_aldq hx hb hK hP 1 0 rfl rfl (vp_in_lit (by decide)) dX9_standingSlots_18 ?_
  refine W.eq (g2 := F0 m 19 ls (.ref s0 :: [])) (congrArg (fun v => F0 m 19 ls (va_rf v :: [])) (sf4_0 s0 s1 s2 s3)) ?_
  refine vp_callSi (W.runV (As := []) (rest := []) ⟨hx, hb, hml, hown, hts⟩ (kX3_stands l dC dI s0 n0) (cwV 0 hts gX9_standingSlots__X3_stands_V270 rfl rfl rfl (by decide +kernel) ⟨lel 1 1 rfl, lel 20 20 rfl⟩) ⟨pw_fb, va_recv hK hP (ci := 2) (q0 := 2) rfl rfl, (pw_use hP hK hN [2] rfl [] rfl)⟩ rfl rfl hl.1 rfl (lv_room (Nat.le_of_ble_eq_true rfl)) dX9_standingSlots_19 ⟨lel 0 0 rfl, lel 0 0 rfl⟩) (fun r_2 hr_2 => ?_)
  obtain rfl : r_2 = 0 := hr_2
  refine lv_if_eq (tgt := 28) hx hb dX9_standingSlots_22 (by decide) (fun _ => ?_) (fun c_3 => absurd c_3 (by decide))
  refine lv_iinc (v := 1) (lv' := [(2, .int 1), (1, .int 0), (0, .ref h0)]) hx hb dX9_standingSlots_28 hl (k := 0) rfl (by decide) (by decide) rfl (fun ls hl => ?_)
  refine lv_goto (tgt := 4) hx hb dX9_standingSlots_31 (by decide) ?_
  refine lv_iload_n hx hb dX9_standingSlots_4 rfl (lv_at hl 0 rfl) ?_
  refine lv_aload_n hx hb dX9_standingSlots_5 rfl (lv_at hl 2 rfl) ?_
  refine va_get (D := (dC, dI)) (ci := 7) (v := .ref sl) (C := RX9) (T := TX9) (N := 10) hx hb hts iX9_standingSlots_X9 hown hK hP 0 rfl rfl 6 (by decide) (hts (.fieldLink RX9 50 "LuckyTicket" "slots" "[LLuckyTicket$Row;") (List.mem_of_getElem? (i := 1) rfl)) (fun _ h9 => h9) rfl dX9_standingSlots_6 ?_
  refine va_alen (v := 4) hx hb hK hP 1 0 rfl rfl (by rfl) dX9_standingSlots_9 ?_
  refine lv_icmp_ge (tgt := 34) hx hb dX9_standingSlots_10 (by decide) (fun c_4 => absurd c_4 (by decide)) (fun _ => ?_)
  refine lv_aload_n hx hb dX9_standingSlots_13 rfl (lv_at hl 2 rfl) ?_
  refine va_get (D := (dC, dI)) (ci := 7) (v := .ref sl) (C := RX9) (T := TX9) (N := 10) hx hb hts iX9_standingSlots_X9 hown hK hP 0 rfl rfl 6 (by decide) (hts (.fieldLink RX9 50 "LuckyTicket" "slots" "[LLuckyTicket$Row;") (List.mem_of_getElem? (i := 1) rfl)) (fun _ h9 => h9) rfl dX9_standingSlots_14 ?_
  refine lv_iload_n hx hb dX9_standingSlots_17 rfl (lv_at hl 0 rfl) ?_
  refine va_aldq hx hb hK hP 1 0 rfl rfl (vp_in_lit (by decide)) dX9_standingSlots_18 ?_
  refine W.eq (g2 := F0 m 19 ls (.ref s1 :: [])) (congrArg (fun v => F0 m 19 ls (va_rf v :: [])) (sf4_1 s0 s1 s2 s3)) ?_
  refine vp_callSi (W.runV (As := []) (rest := []) ⟨hx, hb, hml, hown, hts⟩ (kX3_stands l dC dI s1 n1) (cwV 0 hts gX9_standingSlots__X3_stands_V270 rfl rfl rfl (by decide +kernel) ⟨lel 1 1 rfl, lel 20 20 rfl⟩) ⟨pw_fb, va_recv hK hP (ci := 2) (q0 := 3) rfl rfl, (pw_use hP hK hN [3] rfl [] rfl)⟩ rfl rfl hl.1 rfl (lv_room (Nat.le_of_ble_eq_true rfl)) dX9_standingSlots_19 ⟨lel 0 0 rfl, lel 0 0 rfl⟩) (fun r_5 hr_5 => ?_)
  obtain rfl : r_5 = 0 := hr_5
  refine lv_if_eq (tgt := 28) hx hb dX9_standingSlots_22 (by decide) (fun _ => ?_) (fun c_6 => absurd c_6 (by decide))
  refine lv_iinc (v := 2) (lv' := [(2, .int 2), (1, .int 0), (0, .ref h0)]) hx hb dX9_standingSlots_28 hl (k := 0) rfl (by decide) (by decide) rfl (fun ls hl => ?_)
  refine lv_goto (tgt := 4) hx hb dX9_standingSlots_31 (by decide) ?_
  refine lv_iload_n hx hb dX9_standingSlots_4 rfl (lv_at hl 0 rfl) ?_
  refine lv_aload_n hx hb dX9_standingSlots_5 rfl (lv_at hl 2 rfl) ?_
  refine va_get (D := (dC, dI)) (ci := 7) (v := .ref sl) (C := RX9) (T := TX9) (N := 10) hx hb hts iX9_standingSlots_X9 hown hK hP 0 rfl rfl 6 (by decide) (hts (.fieldLink RX9 50 "LuckyTicket" "slots" "[LLuckyTicket$Row;") (List.mem_of_getElem? (i := 1) rfl)) (fun _ h9 => h9) rfl dX9_standingSlots_6 ?_
  refine va_alen (v := 4) hx hb hK hP 1 0 rfl rfl (by rfl) dX9_standingSlots_9 ?_
  refine lv_icmp_ge (tgt := 34) hx hb dX9_standingSlots_10 (by decide) (fun c_7 => absurd c_7 (by decide)) (fun _ => ?_)
  refine lv_aload_n hx hb dX9_standingSlots_13 rfl (lv_at hl 2 rfl) ?_
  refine va_get (D := (dC, dI)) (ci := 7) (v := .ref sl) (C := RX9) (T := TX9) (N := 10) hx hb hts iX9_standingSlots_X9 hown hK hP 0 rfl rfl 6 (by decide) (hts (.fieldLink RX9 50 "LuckyTicket" "slots" "[LLuckyTicket$Row;") (List.mem_of_getElem? (i := 1) rfl)) (fun _ h9 => h9) rfl dX9_standingSlots_14 ?_
  refine lv_iload_n hx hb dX9_standingSlots_17 rfl (lv_at hl 0 rfl) ?_
  refine va_aldq hx hb hK hP 1 0 rfl rfl (vp_in_lit (by decide)) dX9_standingSlots_18 ?_
  refine W.eq (g2 := F0 m 19 ls (.ref s2 :: [])) (congrArg (fun v => F0 m 19 ls (va_rf v :: [])) (sf4_2 s0 s1 s2 s3)) ?_
  refine vp_callSi (W.runV (As := []) (rest := []) ⟨hx, hb, hml, hown, hts⟩ (kX3_stands l dC dI s2 n2) (cwV 0 hts gX9_standingSlots__X3_stands_V270 rfl rfl rfl (by decide +kernel) ⟨lel 1 1 rfl, lel 20 20 rfl⟩) ⟨pw_fb, va_recv hK hP (ci := 2) (q0 := 4) rfl rfl, (pw_use hP hK hN [4] rfl [] rfl)⟩ rfl rfl hl.1 rfl (lv_room (Nat.le_of_ble_eq_true rfl)) dX9_standingSlots_19 ⟨lel 0 0 rfl, lel 0 0 rfl⟩) (fun r_8 hr_8 => ?_)
  obtain rfl : r_8 = 0 := hr_8
  refine lv_if_eq (tgt := 28) hx hb dX9_standingSlots_22 (by decide) (fun _ => ?_) (fun c_9 => absurd c_9 (by decide))
  refine lv_iinc (v := 3) (lv' := [(2, .int 3), (1, .int 0), (0, .ref h0)]) hx hb dX9_standingSlots_28 hl (k := 0) rfl (by decide) (by decide) rfl (fun ls hl => ?_)
  refine lv_goto (tgt := 4) hx hb dX9_standingSlots_31 (by decide) ?_
  refine lv_iload_n hx hb dX9_standingSlots_4 rfl (lv_at hl 0 rfl) ?_
  refine lv_aload_n hx hb dX9_standingSlots_5 rfl (lv_at hl 2 rfl) ?_
  refine va_get (D := (dC, dI)) (ci := 7) (v := .ref sl) (C := RX9) (T := TX9) (N := 10) hx hb hts iX9_standingSlots_X9 hown hK hP 0 rfl rfl 6 (by decide) (hts (.fieldLink RX9 50 "LuckyTicket" "slots" "[LLuckyTicket$Row;") (List.mem_of_getElem? (i := 1) rfl)) (fun _ h9 => h9) rfl dX9_standingSlots_6 ?_
  refine va_alen (v := 4) hx hb hK hP 1 0 rfl rfl (by rfl) dX9_standingSlots_9 ?_
  refine lv_icmp_ge (tgt := 34) hx hb dX9_standingSlots_10 (by decide) (fun c_10 => absurd c_10 (by decide)) (fun _ => ?_)
  refine lv_aload_n hx hb dX9_standingSlots_13 rfl (lv_at hl 2 rfl) ?_
  refine va_get (D := (dC, dI)) (ci := 7) (v := .ref sl) (C := RX9) (T := TX9) (N := 10) hx hb hts iX9_standingSlots_X9 hown hK hP 0 rfl rfl 6 (by decide) (hts (.fieldLink RX9 50 "LuckyTicket" "slots" "[LLuckyTicket$Row;") (List.mem_of_getElem? (i := 1) rfl)) (fun _ h9 => h9) rfl dX9_standingSlots_14 ?_
  refine lv_iload_n hx hb dX9_standingSlots_17 rfl (lv_at hl 0 rfl) ?_
  refine va_aldq hx hb hK hP 1 0 rfl rfl (vp_in_lit (by decide)) dX9_standingSlots_18 ?_
  refine W.eq (g2 := F0 m 19 ls (.ref s3 :: [])) (congrArg (fun v => F0 m 19 ls (va_rf v :: [])) (sf4_3 s0 s1 s2 s3)) ?_
  refine vp_callSi (W.runV (As := []) (rest := []) ⟨hx, hb, hml, hown, hts⟩ (kX3_stands l dC dI s3 n3) (cwV 0 hts gX9_standingSlots__X3_stands_V270 rfl rfl rfl (by decide +kernel) ⟨lel 1 1 rfl, lel 20 20 rfl⟩) ⟨pw_fb, va_recv hK hP (ci := 2) (q0 := 5) rfl rfl, (pw_use hP hK hN [5] rfl [] rfl)⟩ rfl rfl hl.1 rfl (lv_room (Nat.le_of_ble_eq_true rfl)) dX9_standingSlots_19 ⟨lel 0 0 rfl, lel 0 0 rfl⟩) (fun r_11 hr_11 => ?_)
  obtain rfl : r_11 = 0 := hr_11
  refine lv_if_eq (tgt := 28) hx hb dX9_standingSlots_22 (by decide) (fun _ => ?_) (fun c_12 => absurd c_12 (by decide))
  refine lv_iinc (v := 4) (lv' := [(2, .int 4), (1, .int 0), (0, .ref h0)]) hx hb dX9_standingSlots_28 hl (k := 0) rfl (by decide) (by decide) rfl (fun ls hl => ?_)
  refine lv_goto (tgt := 4) hx hb dX9_standingSlots_31 (by decide) ?_
  refine lv_iload_n hx hb dX9_standingSlots_4 rfl (lv_at hl 0 rfl) ?_
  refine lv_aload_n hx hb dX9_standingSlots_5 rfl (lv_at hl 2 rfl) ?_
  refine va_get (D := (dC, dI)) (ci := 7) (v := .ref sl) (C := RX9) (T := TX9) (N := 10) hx hb hts iX9_standingSlots_X9 hown hK hP 0 rfl rfl 6 (by decide) (hts (.fieldLink RX9 50 "LuckyTicket" "slots" "[LLuckyTicket$Row;") (List.mem_of_getElem? (i := 1) rfl)) (fun _ h9 => h9) rfl dX9_standingSlots_6 ?_
  refine va_alen (v := 4) hx hb hK hP 1 0 rfl rfl (by rfl) dX9_standingSlots_9 ?_
  refine lv_icmp_ge (tgt := 34) hx hb dX9_standingSlots_10 (by decide) (fun _ => ?_) (fun c_13 => absurd c_13 (by decide))
  refine lv_iload_n hx hb dX9_standingSlots_34 rfl (lv_at hl 1 rfl) ?_
  exact W.iret (v := 0) hx hb hr (fun t ht hW => ⟨0, rfl, rfl, ht⟩) t_nil dX9_standingSlots_35
theorem dX9_count_0 : decode cX9_count 0 = .ok (.iload_n 1, 1) := by decide +kernel
theorem dX9_count_1 : decode cX9_count 1 = .ok (.tableswitch 108 0 7 #[47, 55, 63, 71, 79, 87, 95, 103], 47) := by decide +kernel
theorem dX9_count_48 : decode cX9_count 48 = .ok (.aload_n 0, 1) := by decide +kernel
theorem dX9_count_49 : decode cX9_count 49 = .ok (.getfield 35, 3) := by decide +kernel
theorem dX9_count_52 : decode cX9_count 52 = .ok (.getfield 110, 3) := by decide +kernel
theorem dX9_count_55 : decode cX9_count 55 = .ok (.ireturn, 1) := by decide +kernel
theorem dX9_count_56 : decode cX9_count 56 = .ok (.aload_n 0, 1) := by decide +kernel
theorem dX9_count_57 : decode cX9_count 57 = .ok (.getfield 35, 3) := by decide +kernel
theorem dX9_count_60 : decode cX9_count 60 = .ok (.getfield 220, 3) := by decide +kernel
theorem dX9_count_63 : decode cX9_count 63 = .ok (.ireturn, 1) := by decide +kernel
theorem dX9_count_64 : decode cX9_count 64 = .ok (.aload_n 0, 1) := by decide +kernel
theorem dX9_count_65 : decode cX9_count 65 = .ok (.getfield 35, 3) := by decide +kernel
theorem dX9_count_68 : decode cX9_count 68 = .ok (.getfield 155, 3) := by decide +kernel
theorem dX9_count_71 : decode cX9_count 71 = .ok (.ireturn, 1) := by decide +kernel
theorem dX9_count_72 : decode cX9_count 72 = .ok (.aload_n 0, 1) := by decide +kernel
theorem dX9_count_73 : decode cX9_count 73 = .ok (.getfield 35, 3) := by decide +kernel
theorem dX9_count_76 : decode cX9_count 76 = .ok (.getfield 327, 3) := by decide +kernel
theorem dX9_count_79 : decode cX9_count 79 = .ok (.ireturn, 1) := by decide +kernel
theorem dX9_count_80 : decode cX9_count 80 = .ok (.aload_n 0, 1) := by decide +kernel
theorem dX9_count_81 : decode cX9_count 81 = .ok (.getfield 35, 3) := by decide +kernel
theorem dX9_count_84 : decode cX9_count 84 = .ok (.getfield 94, 3) := by decide +kernel
theorem dX9_count_87 : decode cX9_count 87 = .ok (.ireturn, 1) := by decide +kernel
theorem dX9_count_88 : decode cX9_count 88 = .ok (.aload_n 0, 1) := by decide +kernel
theorem dX9_count_89 : decode cX9_count 89 = .ok (.getfield 10, 3) := by decide +kernel
theorem dX9_count_92 : decode cX9_count 92 = .ok (.getfield 80, 3) := by decide +kernel
theorem dX9_count_95 : decode cX9_count 95 = .ok (.ireturn, 1) := by decide +kernel
theorem dX9_count_96 : decode cX9_count 96 = .ok (.aload_n 0, 1) := by decide +kernel
theorem dX9_count_97 : decode cX9_count 97 = .ok (.getfield 35, 3) := by decide +kernel
theorem dX9_count_100 : decode cX9_count 100 = .ok (.invokevirtual 330, 3) := by decide +kernel
theorem dX9_count_103 : decode cX9_count 103 = .ok (.ireturn, 1) := by decide +kernel
theorem dX9_count_104 : decode cX9_count 104 = .ok (.aload_n 0, 1) := by decide +kernel
theorem dX9_count_105 : decode cX9_count 105 = .ok (.invokevirtual 334, 3) := by decide +kernel
theorem dX9_count_108 : decode cX9_count 108 = .ok (.ireturn, 1) := by decide +kernel
theorem dX9_count_109 : decode cX9_count 109 = .ok (.iconst (-1), 1) := by decide +kernel
theorem dX9_count_110 : decode cX9_count 110 = .ok (.ireturn, 1) := by decide +kernel
def uX9_count : List Cond := .code yX9_count cX9_count 2 (some .int) :: ([.fieldLink RX9 35 "LuckyTicket" "current" "LLuckyTicket$Roll;", .fieldLink RX9 10 "LuckyTicket" "tape" "LLuckyTicket$Tape;", .methodLink RX9 330 yX2_totalByAny, .instanceMethod yX2_totalByAny, .selects RX2 yX2_totalByAny yX2_totalByAny, .initialized RX2, .code yX2_totalByAny cX2_totalByAny 3 (some .int), .fieldLink RX2 42 "LuckyTicket$Roll" "tickets" "I", .methodLink RX9 334 yX9_standingSlots, .instanceMethod yX9_standingSlots, .selects RX9 yX9_standingSlots yX9_standingSlots, .initialized RX9, .code yX9_standingSlots cX9_standingSlots 3 (some .int), .fieldLink RX9 50 "LuckyTicket" "slots" "[LLuckyTicket$Row;", .methodLink RX9 270 yX3_stands, .instanceMethod yX3_stands, .selects RX3 yX3_stands yX3_stands, .initialized RX3, .code yX3_stands cX3_stands 1 (some .boolean), .fieldLink RX3 9 "LuckyTicket$Row" "width" "I"] ++ wsX90 ++ wsX20 ++ wsX70 ++ wsX30)
theorem iX9_count_X9 : ∀ w ∈ wsX90, w ∈ uX9_count := fun _ h => List.mem_cons_of_mem _ (List.mem_append_left _ (List.mem_append_left _ (List.mem_append_left _ (List.mem_append_right _ h))))
theorem iX9_count_X2 : ∀ w ∈ wsX20, w ∈ uX9_count := fun _ h => List.mem_cons_of_mem _ (List.mem_append_left _ (List.mem_append_left _ (List.mem_append_right _ h)))
theorem iX9_count_X7 : ∀ w ∈ wsX70, w ∈ uX9_count := fun _ h => List.mem_cons_of_mem _ (List.mem_append_left _ (List.mem_append_right _ h))
theorem iX9_count_X3 : ∀ w ∈ wsX30, w ∈ uX9_count := fun _ h => List.mem_cons_of_mem _ (List.mem_append_right _ h)
set_option maxRecDepth 20000 in
theorem gX9_count__X2_totalByAny_V330 : GoodIn uX9_count (wsV RX9 330 RX2 yX2_totalByAny uX2_totalByAny) := goodIn_p _ [7] rfl (by decide +kernel)
set_option maxRecDepth 20000 in
theorem gX9_count__X9_standingSlots_V334 : GoodIn uX9_count (wsV RX9 334 RX9 yX9_standingSlots uX9_standingSlots) := goodIn_p _ [13, 19] rfl (by decide +kernel)
set_option maxHeartbeats 4000000 in
set_option maxRecDepth 100000 in
theorem kX9_count (l : Launch) (dC : Nat → ClassId) (dI : Nat → Nat → Nat) (h0 : Nat) (tp : Nat) (sc : Nat) (rd : Nat) (cu : Nat) (im : Nat) (ig : Nat) (sl : Nat) (se : Nat) (su : Nat) (fc : Nat) (fa : Nat) (lu : Nat) (tb : Nat) (cS : ClassId) (s0 : Nat) (s1 : Nat) (s2 : Nat) (s3 : Nat) (n0 : Nat) (n1 : Nat) (n2 : Nat) (n3 : Nat) (a1 : Int32) : Met l yX9_count uX9_count ({ frames := 2, cells := 0, slots := 0, locals := 42 }) (va_Pc [.ref h0, .int a1] (pw (dC, dI) vwCl [(h0, .inr (7, [.ref tp, .ref sc, .ref rd, .ref cu, .ref im, .ref ig, .ref sl, .ref se, .ref su, .ref fc])), (cu, .inr (1, [.int 0, .int 0, .int 0, .int 0, .int 0, .ref fa, .ref lu])), (tp, .inr (6, [.ref tb, .int 0])), (sl, .inl (cS, 4, .inr (.inr (.inr (.inr (sf4 s0 s1 s2 s3)))))), (s0, .inr (2, [.int (-1), .int 0, .ref n0])), (s1, .inr (2, [.int (-1), .int 0, .ref n1])), (s2, .inr (2, [.int (-1), .int 0, .ref n2])), (s3, .inr (2, [.int (-1), .int 0, .ref n3]))] [(cS, .object RX3)])) (vp_Si (fun r => r = ct a1)) 0 0 (fun _ => False) := by
  refine Met.ofW (cc := cX9_count) (maxL := 2) (ret := (some .int)) (by decide) rfl ?_
  intro p e s m args below meth c s₁ B hml hv
  obtain ⟨rfl, hP, hK, hN⟩ := hv
  have hx := B.exec
  have hb := B.bytes
  have hr := B.returns
  have hts := atoms_spec (ws := uX9_count) B.pre
  have hown : s.vm.findClass RX9 = some m.cls := findClass_of_methodNamed B.named
  have hlocks := B.notSynchronized
  have hl := lv_entry ([.ref h0, .int a1]) (n := 2) (Nat.le_of_ble_eq_true rfl)
  rw [lg_entry_eq]
  generalize (lg_sl ([.ref h0, .int a1]) ++ List.replicate (2 - (lg_sl ([.ref h0, .int a1])).length) Slot.unset).toArray = ls at hl ⊢
  have hl : lv_has ls 2 [(0, .ref h0), (1, .int a1)] := hl
  refine lv_iload_n hx hb dX9_count_0 rfl (lv_at hl 1 rfl) ?_
  by_cases c_1 : a1.toInt < 0 ∨ 7 < a1.toInt
  ·
    refine lv_tableOut (tgt := 109) hx hb dX9_count_1 c_1 (by decide) ?_
    refine lv_iconst (v := (-1)) hx hb dX9_count_109 (by decide) ?_
    exact W.iret (v := (-1)) hx hb hr (fun t ht hW => ⟨(-1), rfl, (if_pos c_1).symm, ht⟩) t_nil dX9_count_110
  ·
    rcases ts_8 c_1 with rfl | rfl | rfl | rfl | rfl | rfl | rfl | rfl
    ·
      refine lv_tableIn (off := 47) (tgt := 48) hx hb dX9_count_1 (by decide) (by decide) (by decide) (by decide) ?_
      refine lv_aload_n hx hb dX9_count_48 rfl (lv_at hl 0 rfl) ?_
      refine va_get (D := (dC, dI)) (ci := 7) (v := .ref cu) (C := RX9) (T := TX9) (N := 10) hx hb hts iX9_count_X9 hown hK hP 0 rfl rfl 3 (by decide) (hts (.fieldLink RX9 35 "LuckyTicket" "current" "LLuckyTicket$Roll;") (List.mem_of_getElem? (i := 1) rfl)) (fun _ h9 => h9) rfl dX9_count_49 ?_
      refine va_getN (own := RX9) (index := 110) (ref := RX2) (host := RX9) (D := (dC, dI)) (ci := 1) (v := .int 0) (C := RX2) (T := TX2) (N := 7) hx hb hts iX9_count_X2 hown hK hP 1 rfl rfl 0 (by decide) (va_Nw.use rfl (hN _ (List.mem_of_getElem? (i := 14) rfl))) (fun _ h9 => h9) rfl dX9_count_52 ?_
      exact W.iret (v := 0) hx hb hr (fun t ht hW => ⟨0, rfl, (by decide), ht⟩) t_nil dX9_count_55
    ·
      refine lv_tableIn (off := 55) (tgt := 56) hx hb dX9_count_1 (by decide) (by decide) (by decide) (by decide) ?_
      refine lv_aload_n hx hb dX9_count_56 rfl (lv_at hl 0 rfl) ?_
      refine va_get (D := (dC, dI)) (ci := 7) (v := .ref cu) (C := RX9) (T := TX9) (N := 10) hx hb hts iX9_count_X9 hown hK hP 0 rfl rfl 3 (by decide) (hts (.fieldLink RX9 35 "LuckyTicket" "current" "LLuckyTicket$Roll;") (List.mem_of_getElem? (i := 1) rfl)) (fun _ h9 => h9) rfl dX9_count_57 ?_
      refine va_getN (own := RX9) (index := 220) (ref := RX2) (host := RX9) (D := (dC, dI)) (ci := 1) (v := .int 0) (C := RX2) (T := TX2) (N := 7) hx hb hts iX9_count_X2 hown hK hP 1 rfl rfl 1 (by decide) (va_Nw.use rfl (hN _ (List.mem_of_getElem? (i := 16) rfl))) (fun _ h9 => h9) rfl dX9_count_60 ?_
      exact W.iret (v := 0) hx hb hr (fun t ht hW => ⟨0, rfl, (by decide), ht⟩) t_nil dX9_count_63
    ·
      refine lv_tableIn (off := 63) (tgt := 64) hx hb dX9_count_1 (by decide) (by decide) (by decide) (by decide) ?_
      refine lv_aload_n hx hb dX9_count_64 rfl (lv_at hl 0 rfl) ?_
      refine va_get (D := (dC, dI)) (ci := 7) (v := .ref cu) (C := RX9) (T := TX9) (N := 10) hx hb hts iX9_count_X9 hown hK hP 0 rfl rfl 3 (by decide) (hts (.fieldLink RX9 35 "LuckyTicket" "current" "LLuckyTicket$Roll;") (List.mem_of_getElem? (i := 1) rfl)) (fun _ h9 => h9) rfl dX9_count_65 ?_
      refine va_getN (own := RX9) (index := 155) (ref := RX2) (host := RX9) (D := (dC, dI)) (ci := 1) (v := .int 0) (C := RX2) (T := TX2) (N := 7) hx hb hts iX9_count_X2 hown hK hP 1 rfl rfl 2 (by decide) (va_Nw.use rfl (hN _ (List.mem_of_getElem? (i := 18) rfl))) (fun _ h9 => h9) rfl dX9_count_68 ?_
      exact W.iret (v := 0) hx hb hr (fun t ht hW => ⟨0, rfl, (by decide), ht⟩) t_nil dX9_count_71
    ·
      refine lv_tableIn (off := 71) (tgt := 72) hx hb dX9_count_1 (by decide) (by decide) (by decide) (by decide) ?_
      refine lv_aload_n hx hb dX9_count_72 rfl (lv_at hl 0 rfl) ?_
      refine va_get (D := (dC, dI)) (ci := 7) (v := .ref cu) (C := RX9) (T := TX9) (N := 10) hx hb hts iX9_count_X9 hown hK hP 0 rfl rfl 3 (by decide) (hts (.fieldLink RX9 35 "LuckyTicket" "current" "LLuckyTicket$Roll;") (List.mem_of_getElem? (i := 1) rfl)) (fun _ h9 => h9) rfl dX9_count_73 ?_
      refine va_getN (own := RX9) (index := 327) (ref := RX2) (host := RX9) (D := (dC, dI)) (ci := 1) (v := .int 0) (C := RX2) (T := TX2) (N := 7) hx hb hts iX9_count_X2 hown hK hP 1 rfl rfl 3 (by decide) (va_Nw.use rfl (hN _ (List.mem_of_getElem? (i := 19) rfl))) (fun _ h9 => h9) rfl dX9_count_76 ?_
      exact W.iret (v := 0) hx hb hr (fun t ht hW => ⟨0, rfl, (by decide), ht⟩) t_nil dX9_count_79
    ·
      refine lv_tableIn (off := 79) (tgt := 80) hx hb dX9_count_1 (by decide) (by decide) (by decide) (by decide) ?_
      refine lv_aload_n hx hb dX9_count_80 rfl (lv_at hl 0 rfl) ?_
      refine va_get (D := (dC, dI)) (ci := 7) (v := .ref cu) (C := RX9) (T := TX9) (N := 10) hx hb hts iX9_count_X9 hown hK hP 0 rfl rfl 3 (by decide) (hts (.fieldLink RX9 35 "LuckyTicket" "current" "LLuckyTicket$Roll;") (List.mem_of_getElem? (i := 1) rfl)) (fun _ h9 => h9) rfl dX9_count_81 ?_
      refine va_getN (own := RX9) (index := 94) (ref := RX2) (host := RX9) (D := (dC, dI)) (ci := 1) (v := .int 0) (C := RX2) (T := TX2) (N := 7) hx hb hts iX9_count_X2 hown hK hP 1 rfl rfl 4 (by decide) (va_Nw.use rfl (hN _ (List.mem_of_getElem? (i := 20) rfl))) (fun _ h9 => h9) rfl dX9_count_84 ?_
      exact W.iret (v := 0) hx hb hr (fun t ht hW => ⟨0, rfl, (by decide), ht⟩) t_nil dX9_count_87
    ·
      refine lv_tableIn (off := 87) (tgt := 88) hx hb dX9_count_1 (by decide) (by decide) (by decide) (by decide) ?_
      refine lv_aload_n hx hb dX9_count_88 rfl (lv_at hl 0 rfl) ?_
      refine va_get (D := (dC, dI)) (ci := 7) (v := .ref tp) (C := RX9) (T := TX9) (N := 10) hx hb hts iX9_count_X9 hown hK hP 0 rfl rfl 0 (by decide) (hts (.fieldLink RX9 10 "LuckyTicket" "tape" "LLuckyTicket$Tape;") (List.mem_of_getElem? (i := 2) rfl)) (fun _ h9 => h9) rfl dX9_count_89 ?_
      refine va_getN (own := RX9) (index := 80) (ref := RX7) (host := RX9) (D := (dC, dI)) (ci := 6) (v := .int 0) (C := RX7) (T := TX7) (N := 2) hx hb hts iX9_count_X7 hown hK hP 2 rfl rfl 1 (by decide) (va_Nw.use rfl (hN _ (List.mem_of_getElem? (i := 1) rfl))) (fun _ h9 => h9) rfl dX9_count_92 ?_
      exact W.iret (v := 0) hx hb hr (fun t ht hW => ⟨0, rfl, (by decide), ht⟩) t_nil dX9_count_95
    ·
      refine lv_tableIn (off := 95) (tgt := 96) hx hb dX9_count_1 (by decide) (by decide) (by decide) (by decide) ?_
      refine lv_aload_n hx hb dX9_count_96 rfl (lv_at hl 0 rfl) ?_
      refine va_get (D := (dC, dI)) (ci := 7) (v := .ref cu) (C := RX9) (T := TX9) (N := 10) hx hb hts iX9_count_X9 hown hK hP 0 rfl rfl 3 (by decide) (hts (.fieldLink RX9 35 "LuckyTicket" "current" "LLuckyTicket$Roll;") (List.mem_of_getElem? (i := 1) rfl)) (fun _ h9 => h9) rfl dX9_count_97 ?_
      refine vp_callSi (W.runV (As := []) (rest := []) ⟨hx, hb, hml, hown, hts⟩ (kX2_totalByAny l dC dI cu fa lu) (cwV 0 hts gX9_count__X2_totalByAny_V330 rfl rfl rfl (by decide +kernel) ⟨lel 1 2 rfl, lel 22 42 rfl⟩) ⟨pw_fb, va_recv hK hP (ci := 1) (q0 := 1) rfl rfl, (pw_use hP hK hN [1] rfl [] rfl)⟩ rfl rfl hl.1 rfl (lv_room (Nat.le_of_ble_eq_true rfl)) dX9_count_100 ⟨lel 0 0 rfl, lel 0 0 rfl⟩) (fun r_2 hr_2 => ?_)
      obtain rfl : r_2 = 0 := hr_2
      exact W.iret (v := 0) hx hb hr (fun t ht hW => ⟨0, rfl, (by decide), ht⟩) t_nil dX9_count_103
    ·
      refine lv_tableIn (off := 103) (tgt := 104) hx hb dX9_count_1 (by decide) (by decide) (by decide) (by decide) ?_
      refine lv_aload_n hx hb dX9_count_104 rfl (lv_at hl 0 rfl) ?_
      refine vp_callSi (W.runV (As := []) (rest := []) ⟨hx, hb, hml, hown, hts⟩ (kX9_standingSlots l dC dI h0 tp sc rd cu im ig sl se su fc cS s0 s1 s2 s3 n0 n1 n2 n3) (cwV 0 hts gX9_count__X9_standingSlots_V334 rfl rfl rfl (by decide +kernel) ⟨lel 2 2 rfl, lel 42 42 rfl⟩) ⟨pw_fb, va_recv hK hP (ci := 7) (q0 := 0) rfl rfl, (pw_use hP hK hN [0, 3, 4, 5, 6, 7] rfl [0] rfl)⟩ rfl rfl hl.1 rfl (lv_room (Nat.le_of_ble_eq_true rfl)) dX9_count_105 ⟨lel 0 0 rfl, lel 0 0 rfl⟩) (fun r_3 hr_3 => ?_)
      obtain rfl : r_3 = 0 := hr_3
      exact W.iret (v := 0) hx hb hr (fun t ht hW => ⟨0, rfl, (by decide), ht⟩) t_nil dX9_count_108
theorem dX10_count_0 : decode cX10_count 0 = .ok (.iconst 0, 1) := by decide +kernel
theorem dX10_count_1 : decode cX10_count 1 = .ok (.istore_n 2, 1) := by decide +kernel
theorem dX10_count_2 : decode cX10_count 2 = .ok (.iload_n 1, 1) := by decide +kernel
theorem dX10_count_3 : decode cX10_count 3 = .ok (.tableswitch 155 0 7 #[45, 52, 59, 66, 73, 80, 85, 122], 45) := by decide +kernel
theorem dX10_count_48 : decode cX10_count 48 = .ok (.aload_n 0, 1) := by decide +kernel
theorem dX10_count_49 : decode cX10_count 49 = .ok (.getfield 9, 3) := by decide +kernel
theorem dX10_count_52 : decode cX10_count 52 = .ok (.iconst 0, 1) := by decide +kernel
theorem dX10_count_53 : decode cX10_count 53 = .ok (.iaload, 1) := by decide +kernel
theorem dX10_count_54 : decode cX10_count 54 = .ok (.ireturn, 1) := by decide +kernel
theorem dX10_count_55 : decode cX10_count 55 = .ok (.aload_n 0, 1) := by decide +kernel
theorem dX10_count_56 : decode cX10_count 56 = .ok (.getfield 9, 3) := by decide +kernel
theorem dX10_count_59 : decode cX10_count 59 = .ok (.iconst 1, 1) := by decide +kernel
theorem dX10_count_60 : decode cX10_count 60 = .ok (.iaload, 1) := by decide +kernel
theorem dX10_count_61 : decode cX10_count 61 = .ok (.ireturn, 1) := by decide +kernel
theorem dX10_count_62 : decode cX10_count 62 = .ok (.aload_n 0, 1) := by decide +kernel
theorem dX10_count_63 : decode cX10_count 63 = .ok (.getfield 9, 3) := by decide +kernel
theorem dX10_count_66 : decode cX10_count 66 = .ok (.iconst 2, 1) := by decide +kernel
theorem dX10_count_67 : decode cX10_count 67 = .ok (.iaload, 1) := by decide +kernel
theorem dX10_count_68 : decode cX10_count 68 = .ok (.ireturn, 1) := by decide +kernel
theorem dX10_count_69 : decode cX10_count 69 = .ok (.aload_n 0, 1) := by decide +kernel
theorem dX10_count_70 : decode cX10_count 70 = .ok (.getfield 9, 3) := by decide +kernel
theorem dX10_count_73 : decode cX10_count 73 = .ok (.iconst 3, 1) := by decide +kernel
theorem dX10_count_74 : decode cX10_count 74 = .ok (.iaload, 1) := by decide +kernel
theorem dX10_count_75 : decode cX10_count 75 = .ok (.ireturn, 1) := by decide +kernel
theorem dX10_count_76 : decode cX10_count 76 = .ok (.aload_n 0, 1) := by decide +kernel
theorem dX10_count_77 : decode cX10_count 77 = .ok (.getfield 9, 3) := by decide +kernel
theorem dX10_count_80 : decode cX10_count 80 = .ok (.iconst 4, 1) := by decide +kernel
theorem dX10_count_81 : decode cX10_count 81 = .ok (.iaload, 1) := by decide +kernel
theorem dX10_count_82 : decode cX10_count 82 = .ok (.ireturn, 1) := by decide +kernel
theorem dX10_count_83 : decode cX10_count 83 = .ok (.aload_n 0, 1) := by decide +kernel
theorem dX10_count_84 : decode cX10_count 84 = .ok (.getfield 97, 3) := by decide +kernel
theorem dX10_count_87 : decode cX10_count 87 = .ok (.ireturn, 1) := by decide +kernel
theorem dX10_count_88 : decode cX10_count 88 = .ok (.iconst 0, 1) := by decide +kernel
theorem dX10_count_89 : decode cX10_count 89 = .ok (.istore_n 3, 1) := by decide +kernel
theorem dX10_count_90 : decode cX10_count 90 = .ok (.iload_n 3, 1) := by decide +kernel
theorem dX10_count_91 : decode cX10_count 91 = .ok (.aload_n 0, 1) := by decide +kernel
theorem dX10_count_92 : decode cX10_count 92 = .ok (.getfield 9, 3) := by decide +kernel
theorem dX10_count_95 : decode cX10_count 95 = .ok (.iconst 2, 1) := by decide +kernel
theorem dX10_count_96 : decode cX10_count 96 = .ok (.iaload, 1) := by decide +kernel
theorem dX10_count_97 : decode cX10_count 97 = .ok (.if_icmp .ge 26, 3) := by decide +kernel
theorem dX10_count_123 : decode cX10_count 123 = .ok (.iload_n 2, 1) := by decide +kernel
theorem dX10_count_124 : decode cX10_count 124 = .ok (.ireturn, 1) := by decide +kernel
theorem dX10_count_125 : decode cX10_count 125 = .ok (.iconst 0, 1) := by decide +kernel
theorem dX10_count_126 : decode cX10_count 126 = .ok (.istore_n 3, 1) := by decide +kernel
theorem dX10_count_127 : decode cX10_count 127 = .ok (.iload_n 3, 1) := by decide +kernel
theorem dX10_count_128 : decode cX10_count 128 = .ok (.iconst 4, 1) := by decide +kernel
theorem dX10_count_129 : decode cX10_count 129 = .ok (.if_icmp .ge 27, 3) := by decide +kernel
theorem dX10_count_132 : decode cX10_count 132 = .ok (.iload_n 2, 1) := by decide +kernel
theorem dX10_count_133 : decode cX10_count 133 = .ok (.aload_n 0, 1) := by decide +kernel
theorem dX10_count_134 : decode cX10_count 134 = .ok (.getfield 65, 3) := by decide +kernel
theorem dX10_count_137 : decode cX10_count 137 = .ok (.iload_n 3, 1) := by decide +kernel
theorem dX10_count_138 : decode cX10_count 138 = .ok (.iaload, 1) := by decide +kernel
theorem dX10_count_139 : decode cX10_count 139 = .ok (.iconst (-1), 1) := by decide +kernel
theorem dX10_count_140 : decode cX10_count 140 = .ok (.if_icmp .ne 7, 3) := by decide +kernel
theorem dX10_count_143 : decode cX10_count 143 = .ok (.iconst 0, 1) := by decide +kernel
theorem dX10_count_144 : decode cX10_count 144 = .ok (.goto 4, 3) := by decide +kernel
theorem dX10_count_148 : decode cX10_count 148 = .ok (.iadd, 1) := by decide +kernel
theorem dX10_count_149 : decode cX10_count 149 = .ok (.istore_n 2, 1) := by decide +kernel
theorem dX10_count_150 : decode cX10_count 150 = .ok (.iinc 3 1, 3) := by decide +kernel
theorem dX10_count_153 : decode cX10_count 153 = .ok (.goto (-26), 3) := by decide +kernel
theorem dX10_count_156 : decode cX10_count 156 = .ok (.iload_n 2, 1) := by decide +kernel
theorem dX10_count_157 : decode cX10_count 157 = .ok (.ireturn, 1) := by decide +kernel
theorem dX10_count_158 : decode cX10_count 158 = .ok (.iconst (-1), 1) := by decide +kernel
theorem dX10_count_159 : decode cX10_count 159 = .ok (.ireturn, 1) := by decide +kernel
def uX10_count : List Cond := .code yX10_count cX10_count 4 (some .int) :: ([.fieldLink RX10 9 "LuckyTicketModel" "world" "[I", .fieldLink RX10 97 "LuckyTicketModel" "taped" "I", .fieldLink RX10 65 "LuckyTicketModel" "many" "[I"] ++ wsX100)
theorem iX10_count_X10 : ∀ w ∈ wsX100, w ∈ uX10_count := fun _ h => List.mem_cons_of_mem _ (List.mem_append_right _ h)
set_option maxHeartbeats 4000000 in
set_option maxRecDepth 100000 in
theorem kX10_count (l : Launch) (dC : Nat → ClassId) (dI : Nat → Nat → Nat) (h0 : Nat) (m_world : Nat) (m_images : Nat) (m_hasImage : Nat) (m_luck : Nat) (m_tape : Nat) (m_five : Nat) (m_fresh : Nat) (m_waits : Nat) (m_figures : Nat) (m_pile : Nat) (m_times : Nat) (m_far : Nat) (m_queue : Nat) (m_months : Nat) (m_ways : Nat) (m_waysOn : Nat) (m_many : Nat) (m_width : Nat) (m_numbers : Nat) (m_moving : Nat) (cI : ClassId) (a1 : Int32) : Met l yX10_count uX10_count ({ frames := 0, cells := 0, slots := 0, locals := 0 }) (va_Pc [.ref h0, .int a1] (pw (dC, dI) vwCl [(h0, .inr (8, [.int 0, .ref m_world, .ref m_images, .ref m_hasImage, .ref m_luck, .ref m_tape, .int 0, .ref m_five, .int 0, .int 0, .int 0, .int 0, .int 0, .int 0, .int (-1), .ref m_fresh, .ref m_waits, .int 0, .int 0, .int 0, .ref m_figures, .ref m_pile, .long 0, .ref m_times, .ref m_far, .ref m_queue, .ref m_months, .ref m_ways, .ref m_waysOn, .ref m_many, .ref m_width, .ref m_numbers, .ref m_moving])), (m_world, .inl (cI, 1875, .inl (fun _ => 0))), (m_many, .inl (cI, 4, .inl manyF))] [(cI, .int)])) (vp_Si (fun r => r = ct a1)) 0 0 (fun _ => False) := by
  refine Met.ofW (cc := cX10_count) (maxL := 4) (ret := (some .int)) (by decide) rfl ?_
  intro p e s m args below meth c s₁ B hml hv
  obtain ⟨rfl, hP, hK, hN⟩ := hv
  have hx := B.exec
  have hb := B.bytes
  have hr := B.returns
  have hts := atoms_spec (ws := uX10_count) B.pre
  have hown : s.vm.findClass RX10 = some m.cls := findClass_of_methodNamed B.named
  have hlocks := B.notSynchronized
  have hl := lv_entry ([.ref h0, .int a1]) (n := 4) (Nat.le_of_ble_eq_true rfl)
  rw [lg_entry_eq]
  generalize (lg_sl ([.ref h0, .int a1]) ++ List.replicate (4 - (lg_sl ([.ref h0, .int a1])).length) Slot.unset).toArray = ls at hl ⊢
  have hl : lv_has ls 4 [(0, .ref h0), (1, .int a1)] := hl
  refine lv_iconst (v := 0) hx hb dX10_count_0 (by decide) ?_
  refine lv_istore_n (lv' := [(2, .int 0), (0, .ref h0), (1, .int a1)]) hx hb dX10_count_1 rfl hl (by decide) rfl (fun ls hl => ?_)
  refine lv_iload_n hx hb dX10_count_2 rfl (lv_at hl 2 rfl) ?_
  by_cases c_1 : a1.toInt < 0 ∨ 7 < a1.toInt
  ·
    refine lv_tableOut (tgt := 158) hx hb dX10_count_3 c_1 (by decide) ?_
    refine lv_iconst (v := (-1)) hx hb dX10_count_158 (by decide) ?_
    exact W.iret (v := (-1)) hx hb hr (fun t ht hW => ⟨(-1), rfl, (if_pos c_1).symm, ht⟩) t_nil dX10_count_159
  ·
    rcases ts_8 c_1 with rfl | rfl | rfl | rfl | rfl | rfl | rfl | rfl
    ·
      refine lv_tableIn (off := 45) (tgt := 48) hx hb dX10_count_3 (by decide) (by decide) (by decide) (by decide) ?_
      refine lv_aload_n hx hb dX10_count_48 rfl (lv_at hl 1 rfl) ?_
      refine va_get (D := (dC, dI)) (ci := 8) (v := .ref m_world) (C := RX10) (T := TX10) (N := 33) hx hb hts iX10_count_X10 hown hK hP 0 rfl rfl 1 (by decide) (hts (.fieldLink RX10 9 "LuckyTicketModel" "world" "[I") (List.mem_of_getElem? (i := 1) rfl)) (fun _ h9 => h9) rfl dX10_count_49 ?_
      refine lv_iconst (v := 0) hx hb dX10_count_52 (by decide) ?_
      refine va_iald hx hb hK hP 1 0 rfl rfl (vp_in_lit (by decide)) dX10_count_53 ?_
      refine lv_topi (fun z_2 ez_2 => ?_)
      obtain rfl : z_2 = 0 := ez_2
      exact W.iret (v := 0) hx hb hr (fun t ht hW => ⟨0, rfl, (by decide), ht⟩) t_nil dX10_count_54
    ·
      refine lv_tableIn (off := 52) (tgt := 55) hx hb dX10_count_3 (by decide) (by decide) (by decide) (by decide) ?_
      refine lv_aload_n hx hb dX10_count_55 rfl (lv_at hl 1 rfl) ?_
      refine va_get (D := (dC, dI)) (ci := 8) (v := .ref m_world) (C := RX10) (T := TX10) (N := 33) hx hb hts iX10_count_X10 hown hK hP 0 rfl rfl 1 (by decide) (hts (.fieldLink RX10 9 "LuckyTicketModel" "world" "[I") (List.mem_of_getElem? (i := 1) rfl)) (fun _ h9 => h9) rfl dX10_count_56 ?_
      refine lv_iconst (v := 1) hx hb dX10_count_59 (by decide) ?_
      refine va_iald hx hb hK hP 1 0 rfl rfl (vp_in_lit (by decide)) dX10_count_60 ?_
      refine lv_topi (fun z_3 ez_3 => ?_)
      obtain rfl : z_3 = 0 := ez_3
      exact W.iret (v := 0) hx hb hr (fun t ht hW => ⟨0, rfl, (by decide), ht⟩) t_nil dX10_count_61
    ·
      refine lv_tableIn (off := 59) (tgt := 62) hx hb dX10_count_3 (by decide) (by decide) (by decide) (by decide) ?_
      refine lv_aload_n hx hb dX10_count_62 rfl (lv_at hl 1 rfl) ?_
      refine va_get (D := (dC, dI)) (ci := 8) (v := .ref m_world) (C := RX10) (T := TX10) (N := 33) hx hb hts iX10_count_X10 hown hK hP 0 rfl rfl 1 (by decide) (hts (.fieldLink RX10 9 "LuckyTicketModel" "world" "[I") (List.mem_of_getElem? (i := 1) rfl)) (fun _ h9 => h9) rfl dX10_count_63 ?_
      refine lv_iconst (v := 2) hx hb dX10_count_66 (by decide) ?_
      refine va_iald hx hb hK hP 1 0 rfl rfl (vp_in_lit (by decide)) dX10_count_67 ?_
      refine lv_topi (fun z_4 ez_4 => ?_)
      obtain rfl : z_4 = 0 := ez_4
      exact W.iret (v := 0) hx hb hr (fun t ht hW => ⟨0, rfl, (by decide), ht⟩) t_nil dX10_count_68
    ·
      refine lv_tableIn (off := 66) (tgt := 69) hx hb dX10_count_3 (by decide) (by decide) (by decide) (by decide) ?_
      refine lv_aload_n hx hb dX10_count_69 rfl (lv_at hl 1 rfl) ?_
      refine va_get (D := (dC, dI)) (ci := 8) (v := .ref m_world) (C := RX10) (T := TX10) (N := 33) hx hb hts iX10_count_X10 hown hK hP 0 rfl rfl 1 (by decide) (hts (.fieldLink RX10 9 "LuckyTicketModel" "world" "[I") (List.mem_of_getElem? (i := 1) rfl)) (fun _ h9 => h9) rfl dX10_count_70 ?_
      refine lv_iconst (v := 3) hx hb dX10_count_73 (by decide) ?_
      refine va_iald hx hb hK hP 1 0 rfl rfl (vp_in_lit (by decide)) dX10_count_74 ?_
      refine lv_topi (fun z_5 ez_5 => ?_)
      obtain rfl : z_5 = 0 := ez_5
      exact W.iret (v := 0) hx hb hr (fun t ht hW => ⟨0, rfl, (by decide), ht⟩) t_nil dX10_count_75
    ·
      refine lv_tableIn (off := 73) (tgt := 76) hx hb dX10_count_3 (by decide) (by decide) (by decide) (by decide) ?_
      refine lv_aload_n hx hb dX10_count_76 rfl (lv_at hl 1 rfl) ?_
      refine va_get (D := (dC, dI)) (ci := 8) (v := .ref m_world) (C := RX10) (T := TX10) (N := 33) hx hb hts iX10_count_X10 hown hK hP 0 rfl rfl 1 (by decide) (hts (.fieldLink RX10 9 "LuckyTicketModel" "world" "[I") (List.mem_of_getElem? (i := 1) rfl)) (fun _ h9 => h9) rfl dX10_count_77 ?_
      refine lv_iconst (v := 4) hx hb dX10_count_80 (by decide) ?_
      refine va_iald hx hb hK hP 1 0 rfl rfl (vp_in_lit (by decide)) dX10_count_81 ?_
      refine lv_topi (fun z_6 ez_6 => ?_)
      obtain rfl : z_6 = 0 := ez_6
      exact W.iret (v := 0) hx hb hr (fun t ht hW => ⟨0, rfl, (by decide), ht⟩) t_nil dX10_count_82
    ·
      refine lv_tableIn (off := 80) (tgt := 83) hx hb dX10_count_3 (by decide) (by decide) (by decide) (by decide) ?_
      refine lv_aload_n hx hb dX10_count_83 rfl (lv_at hl 1 rfl) ?_
      refine va_get (D := (dC, dI)) (ci := 8) (v := .int 0) (C := RX10) (T := TX10) (N := 33) hx hb hts iX10_count_X10 hown hK hP 0 rfl rfl 6 (by decide) (hts (.fieldLink RX10 97 "LuckyTicketModel" "taped" "I") (List.mem_of_getElem? (i := 2) rfl)) (fun _ h9 => h9) rfl dX10_count_84 ?_
      exact W.iret (v := 0) hx hb hr (fun t ht hW => ⟨0, rfl, (by decide), ht⟩) t_nil dX10_count_87
    ·
      refine lv_tableIn (off := 85) (tgt := 88) hx hb dX10_count_3 (by decide) (by decide) (by decide) (by decide) ?_
      refine lv_iconst (v := 0) hx hb dX10_count_88 (by decide) ?_
      refine lv_istore_n (lv' := [(3, .int 0), (2, .int 0), (0, .ref h0), (1, .int 6)]) hx hb dX10_count_89 rfl hl (by decide) rfl (fun ls hl => ?_)
      refine lv_iload_n hx hb dX10_count_90 rfl (lv_at hl 0 rfl) ?_
      refine lv_aload_n hx hb dX10_count_91 rfl (lv_at hl 2 rfl) ?_
      refine va_get (D := (dC, dI)) (ci := 8) (v := .ref m_world) (C := RX10) (T := TX10) (N := 33) hx hb hts iX10_count_X10 hown hK hP 0 rfl rfl 1 (by decide) (hts (.fieldLink RX10 9 "LuckyTicketModel" "world" "[I") (List.mem_of_getElem? (i := 1) rfl)) (fun _ h9 => h9) rfl dX10_count_92 ?_
      refine lv_iconst (v := 2) hx hb dX10_count_95 (by decide) ?_
      refine va_iald hx hb hK hP 1 0 rfl rfl (vp_in_lit (by decide)) dX10_count_96 ?_
      refine lv_topi (fun z_7 ez_7 => ?_)
      obtain rfl : z_7 = 0 := ez_7
      refine lv_icmp_ge (tgt := 123) hx hb dX10_count_97 (by decide) (fun _ => ?_) (fun c_8 => absurd c_8 (by decide))
      refine lv_iload_n hx hb dX10_count_123 rfl (lv_at hl 1 rfl) ?_
      exact W.iret (v := 0) hx hb hr (fun t ht hW => ⟨0, rfl, (by decide), ht⟩) t_nil dX10_count_124
    ·
      refine lv_tableIn (off := 122) (tgt := 125) hx hb dX10_count_3 (by decide) (by decide) (by decide) (by decide) ?_
      refine lv_iconst (v := 0) hx hb dX10_count_125 (by decide) ?_
      refine lv_istore_n (lv' := [(3, .int 0), (2, .int 0), (0, .ref h0), (1, .int 7)]) hx hb dX10_count_126 rfl hl (by decide) rfl (fun ls hl => ?_)
      refine lv_iload_n hx hb dX10_count_127 rfl (lv_at hl 0 rfl) ?_
      refine lv_iconst (v := 4) hx hb dX10_count_128 (by decide) ?_
      refine lv_icmp_ge (tgt := 156) hx hb dX10_count_129 (by decide) (fun c_9 => absurd c_9 (by decide)) (fun _ => ?_)
      refine lv_iload_n hx hb dX10_count_132 rfl (lv_at hl 1 rfl) ?_
      refine lv_aload_n hx hb dX10_count_133 rfl (lv_at hl 2 rfl) ?_
      refine va_get (D := (dC, dI)) (ci := 8) (v := .ref m_many) (C := RX10) (T := TX10) (N := 33) hx hb hts iX10_count_X10 hown hK hP 0 rfl rfl 29 (by decide) (hts (.fieldLink RX10 65 "LuckyTicketModel" "many" "[I") (List.mem_of_getElem? (i := 3) rfl)) (fun _ h9 => h9) rfl dX10_count_134 ?_
      refine lv_iload_n hx hb dX10_count_137 rfl (lv_at hl 0 rfl) ?_
      refine va_iald hx hb hK hP 2 0 rfl rfl (vp_in_lit (by decide)) dX10_count_138 ?_
      refine lv_topi (fun z_10 ez_10 => ?_)
      obtain rfl : z_10 = (-1) := ez_10.trans (by decide)
      refine lv_iconst (v := (-1)) hx hb dX10_count_139 (by decide) ?_
      refine lv_icmp_ne (tgt := 147) hx hb dX10_count_140 (by decide) (fun c_11 => absurd c_11 (by decide)) (fun _ => ?_)
      refine lv_iconst (v := 0) hx hb dX10_count_143 (by decide) ?_
      refine lv_goto (tgt := 148) hx hb dX10_count_144 (by decide) ?_
      refine lv_iadd hx hb dX10_count_148 ?_
      refine lv_topi (fun z_12 ez_12 => ?_)
      obtain rfl : z_12 = 0 := ez_12.trans (by decide)
      refine lv_istore_n (lv' := [(2, .int 0), (3, .int 0), (0, .ref h0), (1, .int 7)]) hx hb dX10_count_149 rfl hl (by decide) rfl (fun ls hl => ?_)
      refine lv_iinc (v := 1) (lv' := [(3, .int 1), (2, .int 0), (0, .ref h0), (1, .int 7)]) hx hb dX10_count_150 hl (k := 1) rfl (by decide) (by decide) rfl (fun ls hl => ?_)
      refine lv_goto (tgt := 127) hx hb dX10_count_153 (by decide) ?_
      refine lv_iload_n hx hb dX10_count_127 rfl (lv_at hl 0 rfl) ?_
      refine lv_iconst (v := 4) hx hb dX10_count_128 (by decide) ?_
      refine lv_icmp_ge (tgt := 156) hx hb dX10_count_129 (by decide) (fun c_13 => absurd c_13 (by decide)) (fun _ => ?_)
      refine lv_iload_n hx hb dX10_count_132 rfl (lv_at hl 1 rfl) ?_
      refine lv_aload_n hx hb dX10_count_133 rfl (lv_at hl 2 rfl) ?_
      refine va_get (D := (dC, dI)) (ci := 8) (v := .ref m_many) (C := RX10) (T := TX10) (N := 33) hx hb hts iX10_count_X10 hown hK hP 0 rfl rfl 29 (by decide) (hts (.fieldLink RX10 65 "LuckyTicketModel" "many" "[I") (List.mem_of_getElem? (i := 3) rfl)) (fun _ h9 => h9) rfl dX10_count_134 ?_
      refine lv_iload_n hx hb dX10_count_137 rfl (lv_at hl 0 rfl) ?_
      refine va_iald hx hb hK hP 2 0 rfl rfl (vp_in_lit (by decide)) dX10_count_138 ?_
      refine lv_topi (fun z_14 ez_14 => ?_)
      obtain rfl : z_14 = (-1) := ez_14.trans (by decide)
      refine lv_iconst (v := (-1)) hx hb dX10_count_139 (by decide) ?_
      refine lv_icmp_ne (tgt := 147) hx hb dX10_count_140 (by decide) (fun c_15 => absurd c_15 (by decide)) (fun _ => ?_)
      refine lv_iconst (v := 0) hx hb dX10_count_143 (by decide) ?_
      refine lv_goto (tgt := 148) hx hb dX10_count_144 (by decide) ?_
      refine lv_iadd hx hb dX10_count_148 ?_
      refine lv_topi (fun z_16 ez_16 => ?_)
      obtain rfl : z_16 = 0 := ez_16.trans (by decide)
      refine lv_istore_n (lv' := [(2, .int 0), (3, .int 1), (0, .ref h0), (1, .int 7)]) hx hb dX10_count_149 rfl hl (by decide) rfl (fun ls hl => ?_)
      refine lv_iinc (v := 2) (lv' := [(3, .int 2), (2, .int 0), (0, .ref h0), (1, .int 7)]) hx hb dX10_count_150 hl (k := 1) rfl (by decide) (by decide) rfl (fun ls hl => ?_)
      refine lv_goto (tgt := 127) hx hb dX10_count_153 (by decide) ?_
      refine lv_iload_n hx hb dX10_count_127 rfl (lv_at hl 0 rfl) ?_
      refine lv_iconst (v := 4) hx hb dX10_count_128 (by decide) ?_
      refine lv_icmp_ge (tgt := 156) hx hb dX10_count_129 (by decide) (fun c_17 => absurd c_17 (by decide)) (fun _ => ?_)
      refine lv_iload_n hx hb dX10_count_132 rfl (lv_at hl 1 rfl) ?_
      refine lv_aload_n hx hb dX10_count_133 rfl (lv_at hl 2 rfl) ?_
      refine va_get (D := (dC, dI)) (ci := 8) (v := .ref m_many) (C := RX10) (T := TX10) (N := 33) hx hb hts iX10_count_X10 hown hK hP 0 rfl rfl 29 (by decide) (hts (.fieldLink RX10 65 "LuckyTicketModel" "many" "[I") (List.mem_of_getElem? (i := 3) rfl)) (fun _ h9 => h9) rfl dX10_count_134 ?_
      refine lv_iload_n hx hb dX10_count_137 rfl (lv_at hl 0 rfl) ?_
      refine va_iald hx hb hK hP 2 0 rfl rfl (vp_in_lit (by decide)) dX10_count_138 ?_
      refine lv_topi (fun z_18 ez_18 => ?_)
      obtain rfl : z_18 = (-1) := ez_18.trans (by decide)
      refine lv_iconst (v := (-1)) hx hb dX10_count_139 (by decide) ?_
      refine lv_icmp_ne (tgt := 147) hx hb dX10_count_140 (by decide) (fun c_19 => absurd c_19 (by decide)) (fun _ => ?_)
      refine lv_iconst (v := 0) hx hb dX10_count_143 (by decide) ?_
      refine lv_goto (tgt := 148) hx hb dX10_count_144 (by decide) ?_
      refine lv_iadd hx hb dX10_count_148 ?_
      refine lv_topi (fun z_20 ez_20 => ?_)
      obtain rfl : z_20 = 0 := ez_20.trans (by decide)
      refine lv_istore_n (lv' := [(2, .int 0), (3, .int 2), (0, .ref h0), (1, .int 7)]) hx hb dX10_count_149 rfl hl (by decide) rfl (fun ls hl => ?_)
      refine lv_iinc (v := 3) (lv' := [(3, .int 3), (2, .int 0), (0, .ref h0), (1, .int 7)]) hx hb dX10_count_150 hl (k := 1) rfl (by decide) (by decide) rfl (fun ls hl => ?_)
      refine lv_goto (tgt := 127) hx hb dX10_count_153 (by decide) ?_
      refine lv_iload_n hx hb dX10_count_127 rfl (lv_at hl 0 rfl) ?_
      refine lv_iconst (v := 4) hx hb dX10_count_128 (by decide) ?_
      refine lv_icmp_ge (tgt := 156) hx hb dX10_count_129 (by decide) (fun c_21 => absurd c_21 (by decide)) (fun _ => ?_)
      refine lv_iload_n hx hb dX10_count_132 rfl (lv_at hl 1 rfl) ?_
      refine lv_aload_n hx hb dX10_count_133 rfl (lv_at hl 2 rfl) ?_
      refine va_get (D := (dC, dI)) (ci := 8) (v := .ref m_many) (C := RX10) (T := TX10) (N := 33) hx hb hts iX10_count_X10 hown hK hP 0 rfl rfl 29 (by decide) (hts (.fieldLink RX10 65 "LuckyTicketModel" "many" "[I") (List.mem_of_getElem? (i := 3) rfl)) (fun _ h9 => h9) rfl dX10_count_134 ?_
      refine lv_iload_n hx hb dX10_count_137 rfl (lv_at hl 0 rfl) ?_
      refine va_iald hx hb hK hP 2 0 rfl rfl (vp_in_lit (by decide)) dX10_count_138 ?_
      refine lv_topi (fun z_22 ez_22 => ?_)
      obtain rfl : z_22 = (-1) := ez_22.trans (by decide)
      refine lv_iconst (v := (-1)) hx hb dX10_count_139 (by decide) ?_
      refine lv_icmp_ne (tgt := 147) hx hb dX10_count_140 (by decide) (fun c_23 => absurd c_23 (by decide)) (fun _ => ?_)
      refine lv_iconst (v := 0) hx hb dX10_count_143 (by decide) ?_
      refine lv_goto (tgt := 148) hx hb dX10_count_144 (by decide) ?_
      refine lv_iadd hx hb dX10_count_148 ?_
      refine lv_topi (fun z_24 ez_24 => ?_)
      obtain rfl : z_24 = 0 := ez_24.trans (by decide)
      refine lv_istore_n (lv' := [(2, .int 0), (3, .int 3), (0, .ref h0), (1, .int 7)]) hx hb dX10_count_149 rfl hl (by decide) rfl (fun ls hl => ?_)
      refine lv_iinc (v := 4) (lv' := [(3, .int 4), (2, .int 0), (0, .ref h0), (1, .int 7)]) hx hb dX10_count_150 hl (k := 1) rfl (by decide) (by decide) rfl (fun ls hl => ?_)
      refine lv_goto (tgt := 127) hx hb dX10_count_153 (by decide) ?_
      refine lv_iload_n hx hb dX10_count_127 rfl (lv_at hl 0 rfl) ?_
      refine lv_iconst (v := 4) hx hb dX10_count_128 (by decide) ?_
      refine lv_icmp_ge (tgt := 156) hx hb dX10_count_129 (by decide) (fun _ => ?_) (fun c_25 => absurd c_25 (by decide))
      refine lv_iload_n hx hb dX10_count_156 rfl (lv_at hl 1 rfl) ?_
      exact W.iret (v := 0) hx hb hr (fun t ht hW => ⟨0, rfl, (by decide), ht⟩) t_nil dX10_count_157
end
