section
-- ===== PART A: goes FIRST, ahead of the names: the tables' words, and 'selects' of the private methods out of them =====
/-- a private method of a class that the tables say can be made, by its rows of tables_1 -/
def lw_okq (q : MethodName × Nat) : Prop := (q.1.cls ≠ "java/lang/invoke/MethodHandle" ∧ q.1.cls ≠ "java/lang/invoke/VarHandle") ∧ Cond.instantiable q.1.cls q.2 ∈ tables_1 ∧ Cond.privateMethod q.1 ∈ tables_1 ∧ Cond.instanceMethod q.1 ∈ tables_1
theorem lw_p0 : lw_okq (⟨"java/lang/Throwable", "fillInStackTrace", "(I)Ljava/lang/Throwable;"⟩, 6) := ⟨⟨by decide +kernel, by decide +kernel⟩, List.mem_of_getElem? (i := 205) (by decide +kernel), List.mem_of_getElem? (i := 203) (by decide +kernel), List.mem_of_getElem? (i := 204) (by decide +kernel)⟩
theorem lw_p1 : lw_okq (⟨"Signatory", "requirePerson", "(I)V"⟩, 6) := ⟨⟨by decide +kernel, by decide +kernel⟩, List.mem_of_getElem? (i := 29) (by decide +kernel), List.mem_of_getElem? (i := 244) (by decide +kernel), List.mem_of_getElem? (i := 245) (by decide +kernel)⟩
theorem lw_p2 : lw_okq (⟨"Signatory", "substituteOrNone", "(I)I"⟩, 6) := ⟨⟨by decide +kernel, by decide +kernel⟩, List.mem_of_getElem? (i := 29) (by decide +kernel), List.mem_of_getElem? (i := 283) (by decide +kernel), List.mem_of_getElem? (i := 284) (by decide +kernel)⟩
theorem lw_p3 : lw_okq (⟨"Signatory", "tell", "(III)V"⟩, 6) := ⟨⟨by decide +kernel, by decide +kernel⟩, List.mem_of_getElem? (i := 29) (by decide +kernel), List.mem_of_getElem? (i := 292) (by decide +kernel), List.mem_of_getElem? (i := 293) (by decide +kernel)⟩
theorem lw_p4 : lw_okq (⟨"java/util/ArrayList", "add", "(Ljava/lang/Object;[Ljava/lang/Object;I)V"⟩, 3) := ⟨⟨by decide +kernel, by decide +kernel⟩, List.mem_of_getElem? (i := 37) (by decide +kernel), List.mem_of_getElem? (i := 324) (by decide +kernel), List.mem_of_getElem? (i := 325) (by decide +kernel)⟩
theorem lw_p5 : lw_okq (⟨"java/util/ArrayList", "grow", "()[Ljava/lang/Object;"⟩, 3) := ⟨⟨by decide +kernel, by decide +kernel⟩, List.mem_of_getElem? (i := 37) (by decide +kernel), List.mem_of_getElem? (i := 328) (by decide +kernel), List.mem_of_getElem? (i := 329) (by decide +kernel)⟩
theorem lw_p6 : lw_okq (⟨"java/util/ArrayList", "grow", "(I)[Ljava/lang/Object;"⟩, 3) := ⟨⟨by decide +kernel, by decide +kernel⟩, List.mem_of_getElem? (i := 37) (by decide +kernel), List.mem_of_getElem? (i := 332) (by decide +kernel), List.mem_of_getElem? (i := 333) (by decide +kernel)⟩
theorem lw_p7 : lw_okq (⟨"Signatory", "requireRoomForPower", "()V"⟩, 6) := ⟨⟨by decide +kernel, by decide +kernel⟩, List.mem_of_getElem? (i := 29) (by decide +kernel), List.mem_of_getElem? (i := 427) (by decide +kernel), List.mem_of_getElem? (i := 428) (by decide +kernel)⟩
theorem lw_p8 : lw_okq (⟨"Signatory", "keepPower", "(LSignatory$Power;I)I"⟩, 6) := ⟨⟨by decide +kernel, by decide +kernel⟩, List.mem_of_getElem? (i := 29) (by decide +kernel), List.mem_of_getElem? (i := 471) (by decide +kernel), List.mem_of_getElem? (i := 472) (by decide +kernel)⟩
theorem lw_p9 : lw_okq (⟨"Signatory", "findPower", "(I)LSignatory$Power;"⟩, 6) := ⟨⟨by decide +kernel, by decide +kernel⟩, List.mem_of_getElem? (i := 29) (by decide +kernel), List.mem_of_getElem? (i := 483) (by decide +kernel), List.mem_of_getElem? (i := 484) (by decide +kernel)⟩
theorem lw_p10 : lw_okq (⟨"Signatory", "countPowersFrom", "(LSignatory$Power;)I"⟩, 6) := ⟨⟨by decide +kernel, by decide +kernel⟩, List.mem_of_getElem? (i := 29) (by decide +kernel), List.mem_of_getElem? (i := 528) (by decide +kernel), List.mem_of_getElem? (i := 529) (by decide +kernel)⟩
theorem lw_p11 : lw_okq (⟨"Signatory$Moment", "ownFault", "(LSignatory$Power;I)C"⟩, 6) := ⟨⟨by decide +kernel, by decide +kernel⟩, List.mem_of_getElem? (i := 63) (by decide +kernel), List.mem_of_getElem? (i := 565) (by decide +kernel), List.mem_of_getElem? (i := 566) (by decide +kernel)⟩
theorem lw_p12 : lw_okq (⟨"Signatory", "signsAlone", "(IIILSignatory$Moment;)Z"⟩, 6) := ⟨⟨by decide +kernel, by decide +kernel⟩, List.mem_of_getElem? (i := 29) (by decide +kernel), List.mem_of_getElem? (i := 620) (by decide +kernel), List.mem_of_getElem? (i := 621) (by decide +kernel)⟩
theorem lw_p13 : lw_okq (⟨"Signatory", "handsOf", "(IIILSignatory$Moment;)I"⟩, 6) := ⟨⟨by decide +kernel, by decide +kernel⟩, List.mem_of_getElem? (i := 29) (by decide +kernel), List.mem_of_getElem? (i := 624) (by decide +kernel), List.mem_of_getElem? (i := 625) (by decide +kernel)⟩
theorem lw_p14 : lw_okq (⟨"Signatory", "signTwo", "(IIII)Z"⟩, 6) := ⟨⟨by decide +kernel, by decide +kernel⟩, List.mem_of_getElem? (i := 29) (by decide +kernel), List.mem_of_getElem? (i := 642) (by decide +kernel), List.mem_of_getElem? (i := 643) (by decide +kernel)⟩
theorem lw_p15 : lw_okq (⟨"Signatory", "requireRoomForDeed", "()V"⟩, 6) := ⟨⟨by decide +kernel, by decide +kernel⟩, List.mem_of_getElem? (i := 29) (by decide +kernel), List.mem_of_getElem? (i := 682) (by decide +kernel), List.mem_of_getElem? (i := 683) (by decide +kernel)⟩
def lw_privs_1 : List (MethodName × Nat) := [(⟨"java/lang/Throwable", "fillInStackTrace", "(I)Ljava/lang/Throwable;"⟩, 6), (⟨"Signatory", "requirePerson", "(I)V"⟩, 6), (⟨"Signatory", "substituteOrNone", "(I)I"⟩, 6), (⟨"Signatory", "tell", "(III)V"⟩, 6), (⟨"java/util/ArrayList", "add", "(Ljava/lang/Object;[Ljava/lang/Object;I)V"⟩, 3), (⟨"java/util/ArrayList", "grow", "()[Ljava/lang/Object;"⟩, 3), (⟨"java/util/ArrayList", "grow", "(I)[Ljava/lang/Object;"⟩, 3), (⟨"Signatory", "requireRoomForPower", "()V"⟩, 6), (⟨"Signatory", "keepPower", "(LSignatory$Power;I)I"⟩, 6), (⟨"Signatory", "findPower", "(I)LSignatory$Power;"⟩, 6), (⟨"Signatory", "countPowersFrom", "(LSignatory$Power;)I"⟩, 6), (⟨"Signatory$Moment", "ownFault", "(LSignatory$Power;I)C"⟩, 6), (⟨"Signatory", "signsAlone", "(IIILSignatory$Moment;)Z"⟩, 6), (⟨"Signatory", "handsOf", "(IIILSignatory$Moment;)I"⟩, 6), (⟨"Signatory", "signTwo", "(IIII)Z"⟩, 6), (⟨"Signatory", "requireRoomForDeed", "()V"⟩, 6)]
theorem lw_r1 : ∀ q ∈ lw_privs_1, lw_okq q := List.forall_mem_cons.mpr ⟨lw_p0, List.forall_mem_cons.mpr ⟨lw_p1, List.forall_mem_cons.mpr ⟨lw_p2, List.forall_mem_cons.mpr ⟨lw_p3, List.forall_mem_cons.mpr ⟨lw_p4, List.forall_mem_cons.mpr ⟨lw_p5, List.forall_mem_cons.mpr ⟨lw_p6, List.forall_mem_cons.mpr ⟨lw_p7, List.forall_mem_cons.mpr ⟨lw_p8, List.forall_mem_cons.mpr ⟨lw_p9, List.forall_mem_cons.mpr ⟨lw_p10, List.forall_mem_cons.mpr ⟨lw_p11, List.forall_mem_cons.mpr ⟨lw_p12, List.forall_mem_cons.mpr ⟨lw_p13, List.forall_mem_cons.mpr ⟨lw_p14, List.forall_mem_cons.mpr ⟨lw_p15, fun _ h => absurd h List.not_mem_nil⟩⟩⟩⟩⟩⟩⟩⟩⟩⟩⟩⟩⟩⟩⟩⟩
theorem lw_p16 : lw_okq (⟨"Signatory", "keepDeed", "(LSignatory$Deed;)I"⟩, 6) := ⟨⟨by decide +kernel, by decide +kernel⟩, List.mem_of_getElem? (i := 29) (by decide +kernel), List.mem_of_getElem? (i := 752) (by decide +kernel), List.mem_of_getElem? (i := 753) (by decide +kernel)⟩
theorem lw_p17 : lw_okq (⟨"Signatory", "addUp", "(LSignatory$Deed;LSignatory$Moment;)I"⟩, 6) := ⟨⟨by decide +kernel, by decide +kernel⟩, List.mem_of_getElem? (i := 29) (by decide +kernel), List.mem_of_getElem? (i := 756) (by decide +kernel), List.mem_of_getElem? (i := 757) (by decide +kernel)⟩
theorem lw_p18 : lw_okq (⟨"Signatory", "signersSuffice", "(LSignatory$Deed;ILSignatory$Moment;)Z"⟩, 6) := ⟨⟨by decide +kernel, by decide +kernel⟩, List.mem_of_getElem? (i := 29) (by decide +kernel), List.mem_of_getElem? (i := 764) (by decide +kernel), List.mem_of_getElem? (i := 765) (by decide +kernel)⟩
theorem lw_p19 : lw_okq (⟨"Signatory", "findLack", "(LSignatory$Deed;)V"⟩, 6) := ⟨⟨by decide +kernel, by decide +kernel⟩, List.mem_of_getElem? (i := 29) (by decide +kernel), List.mem_of_getElem? (i := 768) (by decide +kernel), List.mem_of_getElem? (i := 769) (by decide +kernel)⟩
theorem lw_p20 : lw_okq (⟨"Signatory", "signersActBy", "(LSignatory$Power;LSignatory$Deed;)Z"⟩, 6) := ⟨⟨by decide +kernel, by decide +kernel⟩, List.mem_of_getElem? (i := 29) (by decide +kernel), List.mem_of_getElem? (i := 772) (by decide +kernel), List.mem_of_getElem? (i := 773) (by decide +kernel)⟩
theorem lw_p21 : lw_okq (⟨"Signatory", "noteLack", "(LSignatory$Deed;LSignatory$Power;)V"⟩, 6) := ⟨⟨by decide +kernel, by decide +kernel⟩, List.mem_of_getElem? (i := 29) (by decide +kernel), List.mem_of_getElem? (i := 776) (by decide +kernel), List.mem_of_getElem? (i := 777) (by decide +kernel)⟩
theorem lw_p22 : lw_okq (⟨"Signatory", "findDeed", "(I)LSignatory$Deed;"⟩, 6) := ⟨⟨by decide +kernel, by decide +kernel⟩, List.mem_of_getElem? (i := 29) (by decide +kernel), List.mem_of_getElem? (i := 877) (by decide +kernel), List.mem_of_getElem? (i := 878) (by decide +kernel)⟩
theorem lw_p23 : lw_okq (⟨"Signatory", "countWaiting", "()I"⟩, 6) := ⟨⟨by decide +kernel, by decide +kernel⟩, List.mem_of_getElem? (i := 29) (by decide +kernel), List.mem_of_getElem? (i := 894) (by decide +kernel), List.mem_of_getElem? (i := 895) (by decide +kernel)⟩
theorem lw_p24 : lw_okq (⟨"Signatory", "lookBack", "(II)V"⟩, 6) := ⟨⟨by decide +kernel, by decide +kernel⟩, List.mem_of_getElem? (i := 29) (by decide +kernel), List.mem_of_getElem? (i := 919) (by decide +kernel), List.mem_of_getElem? (i := 920) (by decide +kernel)⟩
theorem lw_p25 : lw_okq (⟨"SignatoryModel", "isThrown", "(ZI)Z"⟩, 26) := ⟨⟨by decide +kernel, by decide +kernel⟩, List.mem_of_getElem? (i := 991) (by decide +kernel), List.mem_of_getElem? (i := 1085) (by decide +kernel), List.mem_of_getElem? (i := 1086) (by decide +kernel)⟩
theorem lw_p26 : lw_okq (⟨"SignatoryModel", "isNobody", "(I)Z"⟩, 26) := ⟨⟨by decide +kernel, by decide +kernel⟩, List.mem_of_getElem? (i := 991) (by decide +kernel), List.mem_of_getElem? (i := 1093) (by decide +kernel), List.mem_of_getElem? (i := 1094) (by decide +kernel)⟩
theorem lw_p27 : lw_okq (⟨"SignatoryModel", "acts", "(II)Z"⟩, 26) := ⟨⟨by decide +kernel, by decide +kernel⟩, List.mem_of_getElem? (i := 991) (by decide +kernel), List.mem_of_getElem? (i := 1108) (by decide +kernel), List.mem_of_getElem? (i := 1109) (by decide +kernel)⟩
theorem lw_p28 : lw_okq (⟨"SignatoryModel", "adds", "(IICIIII)I"⟩, 26) := ⟨⟨by decide +kernel, by decide +kernel⟩, List.mem_of_getElem? (i := 991) (by decide +kernel), List.mem_of_getElem? (i := 1120) (by decide +kernel), List.mem_of_getElem? (i := 1121) (by decide +kernel)⟩
theorem lw_p29 : lw_okq (⟨"SignatoryModel", "isNoPower", "(I)Z"⟩, 26) := ⟨⟨by decide +kernel, by decide +kernel⟩, List.mem_of_getElem? (i := 991) (by decide +kernel), List.mem_of_getElem? (i := 1132) (by decide +kernel), List.mem_of_getElem? (i := 1133) (by decide +kernel)⟩
theorem lw_p30 : lw_okq (⟨"SignatoryModel", "comesFrom", "(II)Z"⟩, 26) := ⟨⟨by decide +kernel, by decide +kernel⟩, List.mem_of_getElem? (i := 991) (by decide +kernel), List.mem_of_getElem? (i := 1140) (by decide +kernel), List.mem_of_getElem? (i := 1141) (by decide +kernel)⟩
theorem lw_p31 : lw_okq (⟨"SignatoryModel", "isNoSum", "(II)Z"⟩, 26) := ⟨⟨by decide +kernel, by decide +kernel⟩, List.mem_of_getElem? (i := 991) (by decide +kernel), List.mem_of_getElem? (i := 1156) (by decide +kernel), List.mem_of_getElem? (i := 1157) (by decide +kernel)⟩
def lw_privs_2 : List (MethodName × Nat) := [(⟨"Signatory", "keepDeed", "(LSignatory$Deed;)I"⟩, 6), (⟨"Signatory", "addUp", "(LSignatory$Deed;LSignatory$Moment;)I"⟩, 6), (⟨"Signatory", "signersSuffice", "(LSignatory$Deed;ILSignatory$Moment;)Z"⟩, 6), (⟨"Signatory", "findLack", "(LSignatory$Deed;)V"⟩, 6), (⟨"Signatory", "signersActBy", "(LSignatory$Power;LSignatory$Deed;)Z"⟩, 6), (⟨"Signatory", "noteLack", "(LSignatory$Deed;LSignatory$Power;)V"⟩, 6), (⟨"Signatory", "findDeed", "(I)LSignatory$Deed;"⟩, 6), (⟨"Signatory", "countWaiting", "()I"⟩, 6), (⟨"Signatory", "lookBack", "(II)V"⟩, 6), (⟨"SignatoryModel", "isThrown", "(ZI)Z"⟩, 26), (⟨"SignatoryModel", "isNobody", "(I)Z"⟩, 26), (⟨"SignatoryModel", "acts", "(II)Z"⟩, 26), (⟨"SignatoryModel", "adds", "(IICIIII)I"⟩, 26), (⟨"SignatoryModel", "isNoPower", "(I)Z"⟩, 26), (⟨"SignatoryModel", "comesFrom", "(II)Z"⟩, 26), (⟨"SignatoryModel", "isNoSum", "(II)Z"⟩, 26)]
theorem lw_r2 : ∀ q ∈ lw_privs_2, lw_okq q := List.forall_mem_cons.mpr ⟨lw_p16, List.forall_mem_cons.mpr ⟨lw_p17, List.forall_mem_cons.mpr ⟨lw_p18, List.forall_mem_cons.mpr ⟨lw_p19, List.forall_mem_cons.mpr ⟨lw_p20, List.forall_mem_cons.mpr ⟨lw_p21, List.forall_mem_cons.mpr ⟨lw_p22, List.forall_mem_cons.mpr ⟨lw_p23, List.forall_mem_cons.mpr ⟨lw_p24, List.forall_mem_cons.mpr ⟨lw_p25, List.forall_mem_cons.mpr ⟨lw_p26, List.forall_mem_cons.mpr ⟨lw_p27, List.forall_mem_cons.mpr ⟨lw_p28, List.forall_mem_cons.mpr ⟨lw_p29, List.forall_mem_cons.mpr ⟨lw_p30, List.forall_mem_cons.mpr ⟨lw_p31, fun _ h => absurd h List.not_mem_nil⟩⟩⟩⟩⟩⟩⟩⟩⟩⟩⟩⟩⟩⟩⟩⟩
theorem lw_p32 : lw_okq (⟨"SignatoryModel", "faulty", "(II)C"⟩, 26) := ⟨⟨by decide +kernel, by decide +kernel⟩, List.mem_of_getElem? (i := 991) (by decide +kernel), List.mem_of_getElem? (i := 1160) (by decide +kernel), List.mem_of_getElem? (i := 1161) (by decide +kernel)⟩
theorem lw_p33 : lw_okq (⟨"SignatoryModel", "isNoAsk", "(III)Z"⟩, 26) := ⟨⟨by decide +kernel, by decide +kernel⟩, List.mem_of_getElem? (i := 991) (by decide +kernel), List.mem_of_getElem? (i := 1177) (by decide +kernel), List.mem_of_getElem? (i := 1178) (by decide +kernel)⟩
theorem lw_p34 : lw_okq (⟨"SignatoryModel", "has", "(IICI)Z"⟩, 26) := ⟨⟨by decide +kernel, by decide +kernel⟩, List.mem_of_getElem? (i := 991) (by decide +kernel), List.mem_of_getElem? (i := 1181) (by decide +kernel), List.mem_of_getElem? (i := 1182) (by decide +kernel)⟩
theorem lw_p35 : lw_okq (⟨"SignatoryModel", "canTogether", "(IIII)Z"⟩, 26) := ⟨⟨by decide +kernel, by decide +kernel⟩, List.mem_of_getElem? (i := 991) (by decide +kernel), List.mem_of_getElem? (i := 1189) (by decide +kernel), List.mem_of_getElem? (i := 1190) (by decide +kernel)⟩
theorem lw_p36 : lw_okq (⟨"SignatoryModel", "isNoDeed", "(III)Z"⟩, 26) := ⟨⟨by decide +kernel, by decide +kernel⟩, List.mem_of_getElem? (i := 991) (by decide +kernel), List.mem_of_getElem? (i := 1210) (by decide +kernel), List.mem_of_getElem? (i := 1211) (by decide +kernel)⟩
theorem lw_p37 : lw_okq (⟨"SignatoryModel", "signed", "(IIIII)I"⟩, 26) := ⟨⟨by decide +kernel, by decide +kernel⟩, List.mem_of_getElem? (i := 991) (by decide +kernel), List.mem_of_getElem? (i := 1214) (by decide +kernel), List.mem_of_getElem? (i := 1215) (by decide +kernel)⟩
theorem lw_p38 : lw_okq (⟨"SignatoryModel", "added", "(III)I"⟩, 26) := ⟨⟨by decide +kernel, by decide +kernel⟩, List.mem_of_getElem? (i := 991) (by decide +kernel), List.mem_of_getElem? (i := 1218) (by decide +kernel), List.mem_of_getElem? (i := 1219) (by decide +kernel)⟩
theorem lw_p39 : lw_okq (⟨"SignatoryModel", "lacks", "(III)V"⟩, 26) := ⟨⟨by decide +kernel, by decide +kernel⟩, List.mem_of_getElem? (i := 991) (by decide +kernel), List.mem_of_getElem? (i := 1222) (by decide +kernel), List.mem_of_getElem? (i := 1223) (by decide +kernel)⟩
theorem lw_p40 : lw_okq (⟨"SignatoryModel", "isNoDeed", "(I)Z"⟩, 26) := ⟨⟨by decide +kernel, by decide +kernel⟩, List.mem_of_getElem? (i := 991) (by decide +kernel), List.mem_of_getElem? (i := 1241) (by decide +kernel), List.mem_of_getElem? (i := 1242) (by decide +kernel)⟩
theorem lw_p41 : lw_okq (⟨"SignatoryModel", "isGood", "(I)Z"⟩, 26) := ⟨⟨by decide +kernel, by decide +kernel⟩, List.mem_of_getElem? (i := 991) (by decide +kernel), List.mem_of_getElem? (i := 1262) (by decide +kernel), List.mem_of_getElem? (i := 1263) (by decide +kernel)⟩
def lw_privs_3 : List (MethodName × Nat) := [(⟨"SignatoryModel", "faulty", "(II)C"⟩, 26), (⟨"SignatoryModel", "isNoAsk", "(III)Z"⟩, 26), (⟨"SignatoryModel", "has", "(IICI)Z"⟩, 26), (⟨"SignatoryModel", "canTogether", "(IIII)Z"⟩, 26), (⟨"SignatoryModel", "isNoDeed", "(III)Z"⟩, 26), (⟨"SignatoryModel", "signed", "(IIIII)I"⟩, 26), (⟨"SignatoryModel", "added", "(III)I"⟩, 26), (⟨"SignatoryModel", "lacks", "(III)V"⟩, 26), (⟨"SignatoryModel", "isNoDeed", "(I)Z"⟩, 26), (⟨"SignatoryModel", "isGood", "(I)Z"⟩, 26)]
theorem lw_r3 : ∀ q ∈ lw_privs_3, lw_okq q := List.forall_mem_cons.mpr ⟨lw_p32, List.forall_mem_cons.mpr ⟨lw_p33, List.forall_mem_cons.mpr ⟨lw_p34, List.forall_mem_cons.mpr ⟨lw_p35, List.forall_mem_cons.mpr ⟨lw_p36, List.forall_mem_cons.mpr ⟨lw_p37, List.forall_mem_cons.mpr ⟨lw_p38, List.forall_mem_cons.mpr ⟨lw_p39, List.forall_mem_cons.mpr ⟨lw_p40, List.forall_mem_cons.mpr ⟨lw_p41, fun _ h => absurd h List.not_mem_nil⟩⟩⟩⟩⟩⟩⟩⟩⟩⟩
def lw_privs : List (MethodName × Nat) := lw_privs_1 ++ (lw_privs_2 ++ (lw_privs_3))
def lw_tbl : List Cond := k2_sels lw_privs ++ tables_1
theorem lw_privs_ok : ∀ q ∈ lw_privs, lw_okq q := by
  show ∀ q ∈ lw_privs_1 ++ (lw_privs_2 ++ (lw_privs_3)), lw_okq q
  exact List.forall_mem_append.mpr ⟨lw_r1, List.forall_mem_append.mpr ⟨lw_r2, lw_r3⟩⟩
/-- the streams that the claim lets the run draw from -/
abbrev lw_cs : List Choice := [Jvm.Choice.named "NaN.bits"]
theorem lw_bits : nanBits ∈ lw_cs := by first | decide | exact List.mem_cons_self | simp [lw_cs, nanBits]
-- ===== end of PART A; then your names; then what follows =====
/-! ===== BEGIN words of one list among another's, by their places ===== -/
theorem goodIn_r {big : List Cond} (ws : List Cond) (ps : List Nat) (hp : ws = ps.filterMap (fun i => big[i]?)) (h : ws.all goodWord = true) : GoodIn big ws := by
  intro w hw
  have h1 := List.all_eq_true.mp h w hw
  rw [hp] at hw
  obtain ⟨i, -, hi⟩ := List.mem_filterMap.mp hw
  have hm : w ∈ big := by first | exact List.mem_of_getElem? hi | exact List.getElem?_mem hi
  exact ⟨hm, good_of_word h1⟩
theorem goodIn_app {big a b : List Cond} (ha : GoodIn big a) (hb : GoodIn big b) : GoodIn big (a ++ b) := fun w h => (List.mem_append.mp h).elim (ha w) (hb w)
theorem goodIn_ca {big a b : List Cond} {c : Cond} (ha : GoodIn big (c :: a)) (hb : GoodIn big b) : GoodIn big (c :: (a ++ b)) := fun w h => (List.mem_cons.mp h).elim (fun e => ha w (List.mem_cons.mpr (Or.inl e))) (fun h => (List.mem_append.mp h).elim (fun h => ha w (List.mem_cons.mpr (Or.inr h))) (hb w))
theorem goodIn_sub {big ws : List Cond} (hm : ∀ w ∈ ws, w ∈ big) (h : ws.all goodWord = true) : GoodIn big ws := fun w hw => ⟨hm w hw, good_of_word (List.all_eq_true.mp h w hw)⟩
/-! ===== END ===== -/
/-! ===== BEGIN exceptions that leave a method, and their catching by the caller (launches without stack traces) ===== -/
section VXA
/-! The laws vx_back, vx_callV, vx_callS, vx_callSW, vx_throw0, vx_throwS follow proofs of the library, with one case more: JvmDerived/Free/Laws.lean (Back.of_free), Shelf42/LK1.lean (callV, callS), Shelf/KitTraced.lean (throwNew0V, throwNewS). -/
/-- where a method has thrown q: the class by its name, the cell, what was written, the world -/
def vx_T (XC : String → State → State → Prop) (st : State) (q : Addr) (t : State) (mc ms : Nat) (free : Addr → Prop) : Prop :=
  ∃ (E : String) (ce : Cell) (L : List Loc), XC E st t ∧ t.heap[q]? = some ce ∧ ce.vm = .none ∧ st.vm.findClass E = some ce.cls ∧ st.WarmedH t.vm ∧ st.sameButNew ({ t with vm := st.vm } : State) L mc ms ∧ ∀ z ∈ L, free z.base
def vx_Q (Qc : Array Value → State → Outcome → State → Prop) (XC : String → State → State → Prop) (mc ms : Nat) (free : Addr → Prop) : Array Value → State → Outcome → State → Prop := fun a st o t =>
  (Qc a st o t ∧ ∃ L, FrameEnd st o t L mc ms ∧ ∀ q ∈ L, free q.base) ∨ ∃ q, o = .threw q ∧ vx_T XC st q t mc ms free
/-- a callee that returns or throws -/
def vx_Met (l : Launch) (y : MethodName) (ws : List Cond) (rm : Room) (Pc : Array Value → State → Prop) (Qc : Array Value → State → Outcome → State → Prop) (XC : String → State → State → Prop) (mc ms : Nat) (free : Addr → Prop) : Prop :=
  MetFree l y (headSpec ws rm) Pc (fun _ _ _ _ _ => True) (vx_Q Qc XC mc ms free)
def vx_Post (XC : String → State → State → Prop) (mc ms : Nat) (free : Addr → Prop) : Pt → Array Value → Addr → Pt → Prop := fun A a q B =>
  ∃ (g : JFrame) (mk : MethodId) (t : State) (L : List Loc) (E : String) (ce : Cell), B.U.heap = t.heap ∧ B.U.vm = t.vm ∧ XC E (A.U.calling g mk a) t ∧ t.heap[q]? = some ce ∧ ce.vm = .none ∧ A.U.vm.findClass E = some ce.cls ∧ B.locs = A.locs ++ L ∧ (∀ z ∈ L, free z.base) ∧ B.cells = A.cells + mc ∧ B.slots = A.slots + ms
def vx_Back (l : Launch) (R : Room) (p : Program) (e : Env) (below : List Frame) (s : State) (sargs : Array Value) (y : MethodName) (len W9 : Nat)
    (Pre : Pt → Array Value → Prop) (Post : Pt → Array Value → Option Value → Pt → Prop) (PostX : Pt → Array Value → Addr → Pt → Prop) : Prop :=
  ∀ (m : MethodId) (meth : Method) (c : Code) (A : Pt) (g : JFrame) (ig : Instr) (mk : MethodId) (a : Array Value),
    Stand p l e R s m sargs below meth c A.U A.locs A.cells A.slots → g.method = m → g.locals.size = c.maxLocals → decode c.code g.pc = .ok (ig, len) →
    2 * g.monitorRoom + (g.stack.map fun v => v.category).sum ≤ W9 → A.U.methodNamed? y = some mk → Pre A a →
    (∃ (v : Option Value) (B : Pt), Stand p l e R s m sargs below meth c B.U B.locs B.cells B.slots ∧ Post A a v B ∧
      Steps p.tables e below (doInvoke e (A.U.setTop g) [] mk a).1 (B.U.setTop { g with pc := g.pc + len, stack := v.toList ++ g.stack })) ∨
    (∃ (q : Addr) (B : Pt), Stand p l e R s m sargs below meth c B.U B.locs B.cells B.slots ∧ PostX A a q B ∧
      Steps p.tables e below (doInvoke e (A.U.setTop g) [] mk a).1 ((B.U.setTop g).pushFrame (.throwing q)))
section Payer
variable {l : Launch} {R : Room} {p : Program} {e : Env} {below : List Frame} {s : State} {sargs : Array Value} {y : MethodName} {len W9 : Nat}
theorem vx_back {ws : List Cond} {rm : Room} {Pc : Array Value → State → Prop} {Qc : Array Value → State → Outcome → State → Prop} {XC : String → State → State → Prop} {mc ms : Nat} {free : Addr → Prop} {bytes : ByteArray} {maxL : Nat} {ret : Option FieldType}
    (hM : vx_Met l y ws rm Pc Qc XC mc ms free) (hblind : FrameBlind Pc) (hrc : rm.cells = mc) (hrs : rm.slots = ms)
    (hframes : rm.frames + 1 ≤ R.frames) (hlocals : W9 + (maxL + 11) + rm.locals ≤ R.locals)
    (hws : ∀ w ∈ ws, ∀ a' U, s.WarmedH U.vm → w.before a' U = true) (hcode : Cond.code y bytes maxL ret ∈ ws) (hinit : ∀ a' U, s.WarmedH U.vm → (Cond.initialized y.cls).before a' U = true) :
    vx_Back l R p e below s sargs y len W9 (PreOf R mc ms Pc) (PostOf Qc mc ms free) (vx_Post XC mc ms free) := by
  intro m meth c A g ig mk a X hg hsize hdg hW hn hp
  have h1 : (headSpec ws rm).pre.before a A.U = true := atoms_intro fun w hw => hws w hw _ _ X.warmed
  have h2 : (Cond.code y bytes maxL ret).before a A.U = true := hws _ hcode _ _ X.warmed
  have h3 : (Cond.initialized y.cls).before a A.U = true := hinit _ _ X.warmed
  have h4 : A.cells + (headSpec ws rm).room.cells ≤ R.cells := by rw [show (headSpec ws rm).room.cells = mc from hrc]; exact hp.1
  have h5 : A.slots + (headSpec ws rm).room.slots ≤ R.slots := by rw [show (headSpec ws rm).room.slots = ms from hrs]; exact hp.2.1
  have hPc : Pc a (A.U.calling g mk a) := hblind _ _ _ _ hp.2.2
  obtain ⟨U, Ls, c0, s0⟩ := A
  dsimp only [Pt.U, Pt.locs, Pt.cells, Pt.slots] at h1 h2 h3 h4 h5 X hn hPc ⊢
  obtain ⟨methY, cY, hmY, hcY, -, hlY, -, -, -, -⟩ := Cond.code_spec hn h2
  obtain ⟨kY, hkY, -⟩ := className_of_methodNamed hn
  have hinitY : kY.init = .initialized := Cond.initialized_spec (findClass_of_methodNamed hn) hkY h3
  have h : At U g.method c below := by rw [hg]; exact X.here
  have hlocals9 : W9 + (maxL + 11) + (headSpec ws rm).room.locals ≤ R.locals := hlocals
  have happ : (headSpec ws rm).appliesLoose y e.platform (U.calling g mk a) = true :=
    Spec.appliesLoose_calling (g := g) h hdg hn hkY hinitY
      (X.room_calling (g := g) (R' := (headSpec ws rm).room) hsize hmY hcY hframes (by rw [hlY]; omega) h4 h5) h1
  obtain ⟨mid, hmid⟩ := h.above
  have hfr : (U.setTop g).frames = (.java g :: mid) ++ below := by rw [State.frames_setTop' g h.top, hmid]; rfl
  obtain ⟨o, s₂, hsteps, -, hend, hq⟩ := Steps.callFree hM p X.admits X.cas X.clock (acts := []) hfr happ hPc trivial
  have hq' : vx_Q Qc XC mc ms free a (U.calling g mk a) o s₂ := hq
  rw [State.frames_setTop' g h.top] at hend
  obtain ⟨g₀, hg0⟩ := Option.isSome_iff_exists.mp h.top
  obtain ⟨r, hr⟩ := State.topJava?_eq_some.mp hg0
  have hr' : (({ U with heap := s₂.heap, slotsUsed := s₂.slotsUsed } : State).setVm s₂.vm).frames = .java g₀ :: r := hr
  rcases hq' with ⟨hqc, L, hfe, hL⟩ | ⟨q, rfl, E, ce, L, hx, hce, hcv, hcl, hW₂, hsm, hL⟩
  · obtain ⟨⟨v, rfl⟩, hW₂, e2, q2, q3, q4, q5, q6⟩ := id hfe
    have e3 : s₂ = ({ (U.calling g mk a).setFrames s₂.frames with heap := s₂.heap, slotsUsed := s₂.slotsUsed } : State).setVm s₂.vm := by
      have : s₂ = ({ s₂ with vm := (U.calling g mk a).vm } : State).setVm s₂.vm := rfl
      rw [e2] at this
      exact this
    obtain ⟨c₂, i₂, len₂, hc₂, hd₂, hf₂⟩ := hend
    have hW' : U.WarmedH s₂.vm := hW₂
    have hcc : c₂ = c := by
      have h1 : s₂.code? g.method = U.code? g.method := by
        rw [State.code?_eq, State.code?_eq, hW'.alike.method?]
      exact Option.some.inj (hc₂.symm.trans (h1.trans h.code))
    subst hcc
    have hlen : len₂ = len := by rw [hdg] at hd₂; cases hd₂; rfl
    subst hlen
    have hs₂ : s₂ = (({ U with heap := s₂.heap, slotsUsed := s₂.slotsUsed } : State).setVm s₂.vm).setTop { g with pc := g.pc + len₂, stack := v.toList ++ g.stack } := by
      refine e3.trans ?_
      rw [hf₂, State.calling_eq h.top, State.setFrames_setFrames, State.setTop_of_frames _ hr', hr]
      rfl
    have hsame : U.sameButNew ({ U with heap := s₂.heap, slotsUsed := s₂.slotsUsed } : State) L mc ms := by
      refine ⟨?_, q2, q3, q4, q5, q6⟩
      obtain ⟨t, ht, -⟩ := State.frames_cons hr
      show ({ U with heap := s₂.heap, slotsUsed := s₂.slotsUsed } : State) = { U.setFrames U.frames with heap := s₂.heap, slotsUsed := s₂.slotsUsed }
      rw [State.setFrames_self ht]
    subst hg
    refine Or.inl ⟨v, ⟨(({ U with heap := s₂.heap, slotsUsed := s₂.slotsUsed } : State).setVm s₂.vm), Ls ++ L, c0 + mc, s0 + ms⟩,
      ⟨X.admits, X.cas, X.clock, X.frames, X.room, X.hears, X.method, X.code, (X.here.setHeapUsed s₂.heap s₂.slotsUsed).setVm hW'.alike, X.tail, State.WarmedH.trans X.warmed hW', X.limits, X.bytes, X.same.trans (hsame.setVm s.vm)⟩,
      ⟨g, mk, s₂, L, rfl, rfl, hqc, rfl, hL, rfl, rfl⟩, ?_⟩
    show Steps p.tables e below _ ((({ U with heap := s₂.heap, slotsUsed := s₂.slotsUsed } : State).setVm s₂.vm).setTop { g with pc := g.pc + len₂, stack := v.toList ++ g.stack })
    rw [← hs₂]
    exact hsteps
  · obtain ⟨e2, q2, q3, q4, q5, q6⟩ := id hsm
    have e3 : s₂ = ({ (U.calling g mk a).setFrames s₂.frames with heap := s₂.heap, slotsUsed := s₂.slotsUsed } : State).setVm s₂.vm := by
      have : s₂ = ({ s₂ with vm := (U.calling g mk a).vm } : State).setVm s₂.vm := rfl
      rw [e2] at this
      exact this
    have hf₂ : s₂.frames = .throwing q :: .java g :: U.frames.tail := hend
    have hW' : U.WarmedH s₂.vm := hW₂
    have hs₂ : s₂ = ((({ U with heap := s₂.heap, slotsUsed := s₂.slotsUsed } : State).setVm s₂.vm).setTop g).pushFrame (.throwing q) := by
      refine e3.trans ?_
      rw [hf₂, State.calling_eq h.top, State.setFrames_setFrames, State.pushFrame, State.frames_setTop _ hr', State.setTop_of_frames _ hr', State.setFrames_setFrames, hr]
      rfl
    have hsame : U.sameButNew ({ U with heap := s₂.heap, slotsUsed := s₂.slotsUsed } : State) L mc ms := by
      refine ⟨?_, q2, q3, q4, q5, q6⟩
      obtain ⟨t, ht, -⟩ := State.frames_cons hr
      show ({ U with heap := s₂.heap, slotsUsed := s₂.slotsUsed } : State) = { U.setFrames U.frames with heap := s₂.heap, slotsUsed := s₂.slotsUsed }
      rw [State.setFrames_self ht]
    subst hg
    refine Or.inr ⟨q, ⟨(({ U with heap := s₂.heap, slotsUsed := s₂.slotsUsed } : State).setVm s₂.vm), Ls ++ L, c0 + mc, s0 + ms⟩,
      ⟨X.admits, X.cas, X.clock, X.frames, X.room, X.hears, X.method, X.code, (X.here.setHeapUsed s₂.heap s₂.slotsUsed).setVm hW'.alike, X.tail, State.WarmedH.trans X.warmed hW', X.limits, X.bytes, X.same.trans (hsame.setVm s.vm)⟩,
      ⟨g, mk, s₂, L, E, ce, rfl, rfl, hx, hce, hcv, hcl, rfl, hL, rfl, rfl⟩, ?_⟩
    show Steps p.tables e below _ (((({ U with heap := s₂.heap, slotsUsed := s₂.slotsUsed } : State).setVm s₂.vm).setTop g).pushFrame (.throwing q))
    rw [← hs₂]
    exact hsteps
end Payer
section Calls
variable {p : Program} {l : Launch} {e : Env} {R : Room} {s : State} {m : MethodId} {args : Array Value} {below : List Frame} {meth : Method} {c : Code} {T : State} {locs : List Loc} {cells slots : Nat}
theorem vx_callV (X : Stand p l e R s m args below meth c T locs cells slots) (hexec : p.tables.exec = Jvm.exec) {own C : String} {index : Nat} {y : MethodName} {bytes : ByteArray} {maxL : Nat} {ret : Option FieldType}
    (hown : s.vm.findClass own = some m.cls) (hlink : (Cond.methodLink own index y).before args s = true) (hinst : (Cond.instanceMethod y).before args s = true) (hsel : (Cond.selects C y y).before args s = true)
    (hcode : (Cond.code y bytes maxL ret).before args s = true) (hy : y.cls ≠ "java/lang/invoke/MethodHandle" ∧ y.cls ≠ "java/lang/invoke/VarHandle")
    {W9 : Nat} {Pre : Pt → Array Value → Prop} {Post : Pt → Array Value → Option Value → Pt → Prop} {PostX : Pt → Array Value → Addr → Pt → Prop} (hK : vx_Back l R p e below s args y 3 W9 Pre Post PostX)
    {b : Addr} {cellB : Cell} (hcell : T.heap[b]? = some cellB) (hobj : cellB.vm.isStatics = false) (hcls : s.vm.findClass C = some cellB.cls)
    {g : JFrame} (hg : g.method = m) (hsize : g.locals.size = c.maxLocals) {argsL rest : List Value} (hlen : ∀ sig, parseMethodDescriptor y.desc = some sig → argsL.length = sig.parameters.length)
    (hstack : g.stack = argsL.reverse ++ .ref b :: rest) (hW : 2 * g.monitorRoom + (rest.map fun v => v.category).sum ≤ W9) (hdg : decode c.code g.pc = .ok (.invokevirtual index, 3))
    (hpre : ∀ vm₁, s.WarmedH vm₁ → Pre ⟨T.setVm vm₁, locs, cells, slots⟩ (Value.ref b :: argsL).toArray) :
    (∃ (v : Option Value) (vm₁ : Vm) (B : Pt), s.WarmedH vm₁ ∧ Stand p l e R s m args below meth c B.U B.locs B.cells B.slots ∧ Post ⟨T.setVm vm₁, locs, cells, slots⟩ (Value.ref b :: argsL).toArray v B ∧
      ∀ target, Steps p.tables e below (B.U.setTop { g with pc := g.pc + 3, stack := v.toList ++ rest }) target → Steps p.tables e below (T.setTop g) target) ∨
    (∃ (q : Addr) (vm₁ : Vm) (B : Pt), s.WarmedH vm₁ ∧ Stand p l e R s m args below meth c B.U B.locs B.cells B.slots ∧ PostX ⟨T.setVm vm₁, locs, cells, slots⟩ (Value.ref b :: argsL).toArray q B ∧
      Steps p.tables e below (T.setTop g) ((B.U.setTop { g with stack := rest }).pushFrame (.throwing q))) := by
  obtain ⟨mk, methM, hnamed, hmethM, hstM, habM⟩ := Cond.instanceMethod_spec hinst
  obtain ⟨methM', cM, hmethM', -, -, -, -, -, -, hsigM⟩ := Cond.code_spec hnamed hcode
  cases hmethM.symm.trans hmethM'
  obtain ⟨c2, r2, m2, q1, q2, q3, q4, kP, hkP, hkPi⟩ := Cond.selects_spec hsel
  cases hcls.symm.trans q1
  cases (State.methodFound?_of_named hnamed hy).symm.trans q2
  cases hnamed.symm.trans q3
  have hselP : selectMethod e.platform s.vm cellB.cls mk = .method mk := by rw [Launch.admits_selectMethod X.admits]; exact q4
  obtain ⟨vm₁, X₁, hstep₁⟩ := X.invokevirtual hexec hown hlink hnamed hmethM hstM hkP hkPi hy (a := b) (cell := cellB) hcell
    (fun z h => by rw [h] at hobj; cases hobj) hselP hmethM habM hkP hkPi (g := g) hg (argsL := argsL) (rest := rest) (hlen _ hsigM) hstack hdg
  rcases hK m meth c ⟨T.setVm vm₁, locs, cells, slots⟩ { g with stack := rest } (.invokevirtual index) mk (Value.ref b :: argsL).toArray X₁ hg hsize hdg hW (X₁.named hnamed) (hpre vm₁ X₁.warmed) with ⟨v, B, X', hpost, hsteps⟩ | ⟨q, B, X', hpost, hsteps⟩
  · exact Or.inl ⟨v, vm₁, B, X₁.warmed, X', hpost, fun target h => hstep₁ _ fun acts => by rw [doInvoke_state]; exact hsteps.trans h⟩
  · exact Or.inr ⟨q, vm₁, B, X₁.warmed, X', hpost, hstep₁ _ fun acts => by rw [doInvoke_state]; exact hsteps⟩
theorem vx_callS (X : Stand p l e R s m args below meth c T locs cells slots) (hexec : p.tables.exec = Jvm.exec) {own : String} {index : Nat} {y : MethodName} {bytes : ByteArray} {maxL : Nat} {ret : Option FieldType}
    (hown : s.vm.findClass own = some m.cls) (hlink : (Cond.methodLink own index y).before args s = true) (hstat : (Cond.static y).before args s = true) (hinit : (Cond.initialized y.cls).before args s = true)
    (hcode : (Cond.code y bytes maxL ret).before args s = true) (hy : y.cls ≠ "java/lang/invoke/MethodHandle" ∧ y.cls ≠ "java/lang/invoke/VarHandle")
    {W9 : Nat} {Pre : Pt → Array Value → Prop} {Post : Pt → Array Value → Option Value → Pt → Prop} {PostX : Pt → Array Value → Addr → Pt → Prop} (hK : vx_Back l R p e below s args y 3 W9 Pre Post PostX)
    {g : JFrame} (hg : g.method = m) (hsize : g.locals.size = c.maxLocals) {argsL rest : List Value} (hlen : ∀ sig, parseMethodDescriptor y.desc = some sig → argsL.length = sig.parameters.length)
    (hstack : g.stack = argsL.reverse ++ rest) (hW : 2 * g.monitorRoom + (rest.map fun v => v.category).sum ≤ W9) (hdg : decode c.code g.pc = .ok (.invokestatic index, 3))
    (hpre : ∀ vm₁, s.WarmedH vm₁ → Pre ⟨T.setVm vm₁, locs, cells, slots⟩ argsL.toArray) :
    (∃ (v : Option Value) (vm₁ : Vm) (B : Pt), s.WarmedH vm₁ ∧ Stand p l e R s m args below meth c B.U B.locs B.cells B.slots ∧ Post ⟨T.setVm vm₁, locs, cells, slots⟩ argsL.toArray v B ∧
      ∀ target, Steps p.tables e below (B.U.setTop { g with pc := g.pc + 3, stack := v.toList ++ rest }) target → Steps p.tables e below (T.setTop g) target) ∨
    (∃ (q : Addr) (vm₁ : Vm) (B : Pt), s.WarmedH vm₁ ∧ Stand p l e R s m args below meth c B.U B.locs B.cells B.slots ∧ PostX ⟨T.setVm vm₁, locs, cells, slots⟩ argsL.toArray q B ∧
      Steps p.tables e below (T.setTop g) ((B.U.setTop { g with stack := rest }).pushFrame (.throwing q))) := by
  obtain ⟨mk, hnamed⟩ := Cond.code_named hcode
  obtain ⟨methM, cM, hmethM, -, -, -, -, -, -, hsigM⟩ := Cond.code_spec hnamed hcode
  have hstatic : methM.isStatic = true := Cond.static_spec hnamed hmethM hstat
  obtain ⟨kP, hkP, -⟩ := className_of_methodNamed hnamed
  have hinitP : kP.init = .initialized := Cond.initialized_spec (findClass_of_methodNamed hnamed) hkP hinit
  obtain ⟨vm₁, X₁, hstep₁⟩ := X.invokestatic hexec hown hlink hnamed hmethM hstatic hkP hinitP hy (g := g) hg (argsL := argsL) (rest := rest) (hlen _ hsigM) hstack hdg
  rcases hK m meth c ⟨T.setVm vm₁, locs, cells, slots⟩ { g with stack := rest } (.invokestatic index) mk argsL.toArray X₁ hg hsize hdg hW (X₁.named hnamed) (hpre vm₁ X₁.warmed) with ⟨v, B, X', hpost, hsteps⟩ | ⟨q, B, X', hpost, hsteps⟩
  · exact Or.inl ⟨v, vm₁, B, X₁.warmed, X', hpost, fun target h => hstep₁ _ fun acts => by rw [doInvoke_state]; exact hsteps.trans h⟩
  · exact Or.inr ⟨q, vm₁, B, X₁.warmed, X', hpost, hstep₁ _ fun acts => by rw [doInvoke_state]; exact hsteps⟩
end Calls
theorem vx_cls {s : State} {T : State} {vm₁ : Vm} {E : String} {k : ClassId} (hW : s.WarmedH vm₁) (h : (T.setVm vm₁).vm.findClass E = some k) : s.vm.findClass E = some k := by
  have h1 : vm₁.findClass E = some k := h
  rw [hW.alike.findClass] at h1
  exact h1
/-- the method's frame g, with q thrown over it -/
def vx_W (p : Program) (l : Launch) (e : Env) (R : Room) (s : State) (m : MethodId) (args : Array Value) (below : List Frame) (meth : Method) (c : Code) (H : Heap) (locs : List Loc) (cells slots : Nat) (Q : State → Prop) (g : JFrame) (q : Addr) : Prop :=
  ∀ T : State, T.heap = H → Stand p l e R s m args below meth c T locs cells slots → ∃ t, Steps p.tables e below ((T.setTop g).pushFrame (.throwing q)) t ∧ Q t
def vx_Run (p : Program) (l : Launch) (e : Env) (R : Room) (s : State) (m : MethodId) (args : Array Value) (below : List Frame) (meth : Method) (c : Code) (H : Heap) (locs : List Loc) (cells slots mc ms : Nat) (g : JFrame) (rest : List Value) (Qa : State → Outcome → State → Prop) (XC : String → State → State → Prop) (free : Addr → Prop) : Prop :=
  ∀ T : State, T.heap = H → Stand p l e R s m args below meth c T locs cells slots →
    (∃ (v : Option Value) (st₀ t T' : State) (L : List Loc), st₀.heap = H ∧ Stand p l e R s m args below meth c T' (locs ++ L) (cells + mc) (slots + ms) ∧ (∀ q ∈ L, free q.base) ∧ T'.heap = t.heap ∧ T'.vm = t.vm ∧ Qa st₀ (.returned v) t ∧
      Goes p e below T g T' { g with pc := g.pc + 3, stack := v.toList ++ rest }) ∨
    (∃ (q : Addr) (st₀ t T' : State) (L : List Loc) (E : String) (ce : Cell), st₀.heap = H ∧ Stand p l e R s m args below meth c T' (locs ++ L) (cells + mc) (slots + ms) ∧ (∀ z ∈ L, free z.base) ∧ T'.heap = t.heap ∧ T'.vm = t.vm ∧ XC E st₀ t ∧ t.heap[q]? = some ce ∧ ce.vm = .none ∧ s.vm.findClass E = some ce.cls ∧
      Steps p.tables e below (T.setTop g) ((T'.setTop { g with stack := rest }).pushFrame (.throwing q)))
def vx_X {S : Type} (px : S → Prop) (B : String → S → State → Prop) (A : Nat → Prop) : String → State → State → Prop := fun E st t => ∃ u : S, px u ∧ B E u t ∧ va_F A st t
section Runs
variable {p : Program} {l : Launch} {e : Env} {R : Room} {s : State} {m : MethodId} {args : Array Value} {below : List Frame} {meth : Method} {c : Code} {H : Heap} {locs : List Loc} {cells slots : Nat}
variable {y : MethodName} {bytes cc : ByteArray} {maxL nL mc ms n index : Nat} {ret : Option FieldType} {ws : List Cond} {rm : Room} {Pc : Array Value → State → Prop} {Qc : Array Value → State → Outcome → State → Prop} {XC : String → State → State → Prop} {free : Addr → Prop} {Ts : List Cond} {own C : String} {b : Addr} {As rest : List Value} {g : JFrame}
theorem vx_callBack (cb : CallB R s args own index y bytes maxL ret ws rm mc ms n) (hM : vx_Met l y ws rm Pc Qc XC mc ms free) (hbl : FrameBlind Pc) : vx_Back l R p e below s args y 3 8 (PreOf R mc ms Pc) (PostOf Qc mc ms free) (vx_Post XC mc ms free) := by
  obtain ⟨hrc, hrs, hfr, hlo, hws, hcw, -, hini, -⟩ := cb
  exact vx_back (bytes := bytes) (maxL := maxL) (ret := ret) hM hbl hrc hrs hfr hlo hws hcw (fun a' U hW => word_at hW (Or.inl (by first | rfl | simp [Cond.onTables, Cond.keeps, Cond.steady])) hini)
theorem vx_runV (S : CallFix p m c cc nL s args Ts own) (hM : vx_Met l y ws rm Pc Qc XC mc ms free) (cw : CallW R s args own C index y bytes maxL ret ws rm mc ms n) (hp : PreV s H C b Pc As)
    (hg : g.method = m) (hn : As.length = n) (hsize : g.locals.size = nL) (hstack : g.stack = As.reverse ++ .ref b :: rest) (hW : 2 * g.monitorRoom + (rest.map fun v => v.category).sum ≤ 8) (hdg : decode cc g.pc = .ok (.invokevirtual index, 3)) (hf : cells + mc ≤ R.cells ∧ slots + ms ≤ R.slots) :
    vx_Run p l e R s m args below meth c H locs cells slots mc ms g rest (Qc (Value.ref b :: As).toArray) XC free := by
  have hK : vx_Back l R p e below s args y 3 8 (PreOf R mc ms Pc) (PostOf Qc mc ms free) (vx_Post XC mc ms free) := vx_callBack cw.1 hM hp.1
  obtain ⟨⟨-, -, -, -, -, -, hcode, -, hy, hlen, hl⟩, hin, hse⟩ := cw
  obtain ⟨hx, hb, hml, ho, -⟩ := S
  obtain ⟨-, ⟨cellB, hcB, hoB, hclB⟩, hPc⟩ := hp
  intro T hT X
  rcases vx_callV X hx (C := C) (bytes := bytes) (maxL := maxL) (ret := ret) ho hl hin hse hcode hy hK (by rw [hT]; exact hcB) hoB hclB hg (hsize.trans hml.symm) (argsL := As) (rest := rest) (fun sig h => hn.trans (hlen sig h)) hstack hW (by rw [hb]; exact hdg)
    (fun vm₁ hW₁ => ⟨hf.1, hf.2, hPc (T.setVm vm₁) hT hW₁⟩) with ⟨v, vm₁, ⟨U', l2, c2, s2⟩, hW₁, X', ⟨g', mk, t, L, e1, e2, hq, h1, hL, h2, h3⟩, st⟩ | ⟨q, vm₁, ⟨U', l2, c2, s2⟩, hW₁, X', ⟨g', mk, t, L, E, ce, e1, e2, hq, hce, hcv, hcl, h1, hL, h2, h3⟩, st⟩
  · dsimp only [Pt.U, Pt.locs, Pt.cells, Pt.slots] at X' e1 e2 h1 h2 h3 st
    subst h1; subst h2; subst h3
    exact Or.inl ⟨v, (T.setVm vm₁).calling g' mk (Value.ref b :: As).toArray, t, U', L, hT, X', hL, e1, e2, hq, st⟩
  · dsimp only [Pt.U, Pt.locs, Pt.cells, Pt.slots] at X' e1 e2 h1 h2 h3 st hcl
    subst h1; subst h2; subst h3
    exact Or.inr ⟨q, (T.setVm vm₁).calling g' mk (Value.ref b :: As).toArray, t, U', L, E, ce, hT, X', hL, e1, e2, hq, hce, hcv, vx_cls hW₁ hcl, st⟩
theorem vx_runS (S : CallFix p m c cc nL s args Ts own) (hM : vx_Met l y ws rm Pc Qc XC mc ms free) (cw : CallB R s args own index y bytes maxL ret ws rm mc ms n ∧ (Cond.static y).before args s = true) (hp : PreS s H Pc As)
    (hg : g.method = m) (hn : As.length = n) (hsize : g.locals.size = nL) (hstack : g.stack = As.reverse ++ rest) (hW : 2 * g.monitorRoom + (rest.map fun v => v.category).sum ≤ 8) (hdg : decode cc g.pc = .ok (.invokestatic index, 3)) (hf : cells + mc ≤ R.cells ∧ slots + ms ≤ R.slots) :
    vx_Run p l e R s m args below meth c H locs cells slots mc ms g rest (Qc As.toArray) XC free := by
  have hK : vx_Back l R p e below s args y 3 8 (PreOf R mc ms Pc) (PostOf Qc mc ms free) (vx_Post XC mc ms free) := vx_callBack cw.1 hM hp.1
  obtain ⟨⟨-, -, -, -, -, -, hcode, hini, hy, hlen, hl⟩, hstt⟩ := cw
  obtain ⟨hx, hb, hml, ho, -⟩ := S
  intro T hT X
  rcases vx_callS X hx (bytes := bytes) (maxL := maxL) (ret := ret) ho hl hstt hini hcode hy hK hg (hsize.trans hml.symm) (argsL := As) (rest := rest) (fun sig h => hn.trans (hlen sig h)) hstack hW (by rw [hb]; exact hdg)
    (fun vm₁ hW₁ => ⟨hf.1, hf.2, hp.2 (T.setVm vm₁) hT hW₁⟩) with ⟨v, vm₁, ⟨U', l2, c2, s2⟩, hW₁, X', ⟨g', mk, t, L, e1, e2, hq, h1, hL, h2, h3⟩, st⟩ | ⟨q, vm₁, ⟨U', l2, c2, s2⟩, hW₁, X', ⟨g', mk, t, L, E, ce, e1, e2, hq, hce, hcv, hcl, h1, hL, h2, h3⟩, st⟩
  · dsimp only [Pt.U, Pt.locs, Pt.cells, Pt.slots] at X' e1 e2 h1 h2 h3 st
    subst h1; subst h2; subst h3
    exact Or.inl ⟨v, (T.setVm vm₁).calling g' mk As.toArray, t, U', L, hT, X', hL, e1, e2, hq, st⟩
  · dsimp only [Pt.U, Pt.locs, Pt.cells, Pt.slots] at X' e1 e2 h1 h2 h3 st hcl
    subst h1; subst h2; subst h3
    exact Or.inr ⟨q, (T.setVm vm₁).calling g' mk As.toArray, t, U', L, E, ce, hT, X', hL, e1, e2, hq, hce, hcv, vx_cls hW₁ hcl, st⟩
end Runs
section Rows
variable {p : Program} {l : Launch} {e : Env} {R : Room} {s : State} {m : MethodId} {args : Array Value} {below : List Frame} {meth : Method} {c : Code} {H : Heap} {locs : List Loc} {cells slots : Nat} {Q : State → Prop}
variable {mc ms : Nat} {free : Addr → Prop} {A0 A1 : Nat → Prop} {H0 : Heap} {a : Array Value} {pc : Nat} {ls : Array Slot} {st0 rest : List Value}
theorem vx_keep {st₀ t T' : State} {L : List Loc} (h0 : st₀.heap = H) (e1 : T'.heap = t.heap) (hS : va_S A0 H0 H locs) (hA : ∀ q, q < H.size → A1 q → A0 q) (hf : ∀ q, free q → A0 q) (hL : ∀ q ∈ L, free q.base) (hF : va_F A1 st₀ t) :
    H.size ≤ T'.heap.size ∧ (∀ q : Nat, q < H.size → ¬ A1 q → T'.heap[q]? = H[q]?) ∧ va_S A0 H0 T'.heap (locs ++ L) := by
  obtain ⟨hz, hk⟩ := hF
  rw [h0] at hz hk
  exact ⟨by rw [e1]; exact hz, fun q h1 h2 => by rw [e1]; exact hk q h1 h2,
    ⟨Nat.le_trans hS.1 (by rw [e1]; exact hz), fun q h1 h2 => by rw [e1, hk q (Nat.lt_of_lt_of_le h1 hS.1) (fun z => h2 (hA q (Nat.lt_of_lt_of_le h1 hS.1) z))]; exact hS.2.1 q h1 h2, fun q hq => by
      rcases List.mem_append.mp hq with h | h
      · exact hS.2.2 q h
      · exact hf _ (hL q h)⟩⟩
theorem vx_calli {S SX : Type} {post : Int32 → S → Prop} {px : SX → Prop} {B : S → State → Prop} {BX : String → SX → State → Prop} {AX : Nat → Prop} (hr : vx_Run p l e R s m args below meth c H locs cells slots mc ms (F0 m pc ls st0) rest (va_Qi post B A1 a) (vx_X px BX AX) free) (hS : va_S A0 H0 H locs) (hA : ∀ q, q < H.size → A1 q → A0 q) (hf : ∀ q, free q → A0 q) (hAX : ∀ q, q < H.size → AX q → A0 q)
    (kx : ∀ (E : String) (ce : Cell) (q9 : Addr) (u : SX) (t : State) (H1 : Heap) (locs1 : List Loc), t.heap = H1 → s.vm.Alike t.vm → px u → BX E u t → H.size ≤ H1.size → (∀ q : Nat, q < H.size → ¬ AX q → H1[q]? = H[q]?) → va_S A0 H0 H1 locs1 → H1[q9]? = some ce → ce.vm = .none → s.vm.findClass E = some ce.cls → vx_W p l e R s m args below meth c H1 locs1 (cells + mc) (slots + ms) Q (F0 m pc ls rest) q9)
    (kk : ∀ (r : Int32) (u : S) (t : State) (H1 : Heap) (locs1 : List Loc), t.heap = H1 → s.vm.Alike t.vm → post r u → B u t → H.size ≤ H1.size → (∀ q : Nat, q < H.size → ¬ A1 q → H1[q]? = H[q]?) → va_S A0 H0 H1 locs1 → W p l e R s m args below meth c H1 locs1 (cells + mc) (slots + ms) Q (F0 m (pc + 3) ls (.int r :: rest))) : W p l e R s m args below meth c H locs cells slots Q (F0 m pc ls st0) := by
  intro T hT X
  rcases hr T hT X with ⟨v, st₀, t, T', L, h0, X', hL, e1, e2, ⟨⟨r, u, hv, hp, hb⟩, hF⟩, st⟩ | ⟨q, st₀, t, T', L, E, ce, h0, X', hL, e1, e2, ⟨u, hp, hb, hF⟩, hce, hcv, hcl, st⟩
  · cases hv
    obtain ⟨k1, k2, k3⟩ := vx_keep h0 e1 hS hA hf hL hF
    obtain ⟨t2, a1, b1⟩ := kk r u t T'.heap (locs ++ L) e1.symm (by rw [← e2]; exact X'.warmed.alike) hp hb k1 k2 k3 T' rfl X'
    exact ⟨t2, st t2 a1, b1⟩
  · obtain ⟨k1, k2, k3⟩ := vx_keep h0 e1 hS hAX hf hL hF
    obtain ⟨t2, a1, b1⟩ := kx E ce q u t T'.heap (locs ++ L) e1.symm (by rw [← e2]; exact X'.warmed.alike) hp hb k1 k2 k3 (by rw [e1]; exact hce) hcv hcl T' rfl X'
    exact ⟨t2, st.trans a1, b1⟩
theorem vx_calll {S SX : Type} {post : Int64 → S → Prop} {px : SX → Prop} {B : S → State → Prop} {BX : String → SX → State → Prop} {AX : Nat → Prop} (hr : vx_Run p l e R s m args below meth c H locs cells slots mc ms (F0 m pc ls st0) rest (va_Ql post B A1 a) (vx_X px BX AX) free) (hS : va_S A0 H0 H locs) (hA : ∀ q, q < H.size → A1 q → A0 q) (hf : ∀ q, free q → A0 q) (hAX : ∀ q, q < H.size → AX q → A0 q)
    (kx : ∀ (E : String) (ce : Cell) (q9 : Addr) (u : SX) (t : State) (H1 : Heap) (locs1 : List Loc), t.heap = H1 → s.vm.Alike t.vm → px u → BX E u t → H.size ≤ H1.size → (∀ q : Nat, q < H.size → ¬ AX q → H1[q]? = H[q]?) → va_S A0 H0 H1 locs1 → H1[q9]? = some ce → ce.vm = .none → s.vm.findClass E = some ce.cls → vx_W p l e R s m args below meth c H1 locs1 (cells + mc) (slots + ms) Q (F0 m pc ls rest) q9)
    (kk : ∀ (r : Int64) (u : S) (t : State) (H1 : Heap) (locs1 : List Loc), t.heap = H1 → s.vm.Alike t.vm → post r u → B u t → H.size ≤ H1.size → (∀ q : Nat, q < H.size → ¬ A1 q → H1[q]? = H[q]?) → va_S A0 H0 H1 locs1 → W p l e R s m args below meth c H1 locs1 (cells + mc) (slots + ms) Q (F0 m (pc + 3) ls (.long r :: rest))) : W p l e R s m args below meth c H locs cells slots Q (F0 m pc ls st0) := by
  intro T hT X
  rcases hr T hT X with ⟨v, st₀, t, T', L, h0, X', hL, e1, e2, ⟨⟨r, u, hv, hp, hb⟩, hF⟩, st⟩ | ⟨q, st₀, t, T', L, E, ce, h0, X', hL, e1, e2, ⟨u, hp, hb, hF⟩, hce, hcv, hcl, st⟩
  · cases hv
    obtain ⟨k1, k2, k3⟩ := vx_keep h0 e1 hS hA hf hL hF
    obtain ⟨t2, a1, b1⟩ := kk r u t T'.heap (locs ++ L) e1.symm (by rw [← e2]; exact X'.warmed.alike) hp hb k1 k2 k3 T' rfl X'
    exact ⟨t2, st t2 a1, b1⟩
  · obtain ⟨k1, k2, k3⟩ := vx_keep h0 e1 hS hAX hf hL hF
    obtain ⟨t2, a1, b1⟩ := kx E ce q u t T'.heap (locs ++ L) e1.symm (by rw [← e2]; exact X'.warmed.alike) hp hb k1 k2 k3 (by rw [e1]; exact hce) hcv hcl T' rfl X'
    exact ⟨t2, st.trans a1, b1⟩
theorem vx_callf {S SX : Type} {post : UInt32 → S → Prop} {px : SX → Prop} {B : S → State → Prop} {BX : String → SX → State → Prop} {AX : Nat → Prop} (hr : vx_Run p l e R s m args below meth c H locs cells slots mc ms (F0 m pc ls st0) rest (va_Qf post B A1 a) (vx_X px BX AX) free) (hS : va_S A0 H0 H locs) (hA : ∀ q, q < H.size → A1 q → A0 q) (hf : ∀ q, free q → A0 q) (hAX : ∀ q, q < H.size → AX q → A0 q)
    (kx : ∀ (E : String) (ce : Cell) (q9 : Addr) (u : SX) (t : State) (H1 : Heap) (locs1 : List Loc), t.heap = H1 → s.vm.Alike t.vm → px u → BX E u t → H.size ≤ H1.size → (∀ q : Nat, q < H.size → ¬ AX q → H1[q]? = H[q]?) → va_S A0 H0 H1 locs1 → H1[q9]? = some ce → ce.vm = .none → s.vm.findClass E = some ce.cls → vx_W p l e R s m args below meth c H1 locs1 (cells + mc) (slots + ms) Q (F0 m pc ls rest) q9)
    (kk : ∀ (r : UInt32) (u : S) (t : State) (H1 : Heap) (locs1 : List Loc), t.heap = H1 → s.vm.Alike t.vm → post r u → B u t → H.size ≤ H1.size → (∀ q : Nat, q < H.size → ¬ A1 q → H1[q]? = H[q]?) → va_S A0 H0 H1 locs1 → W p l e R s m args below meth c H1 locs1 (cells + mc) (slots + ms) Q (F0 m (pc + 3) ls (.float r :: rest))) : W p l e R s m args below meth c H locs cells slots Q (F0 m pc ls st0) := by
  intro T hT X
  rcases hr T hT X with ⟨v, st₀, t, T', L, h0, X', hL, e1, e2, ⟨⟨r, u, hv, hp, hb⟩, hF⟩, st⟩ | ⟨q, st₀, t, T', L, E, ce, h0, X', hL, e1, e2, ⟨u, hp, hb, hF⟩, hce, hcv, hcl, st⟩
  · cases hv
    obtain ⟨k1, k2, k3⟩ := vx_keep h0 e1 hS hA hf hL hF
    obtain ⟨t2, a1, b1⟩ := kk r u t T'.heap (locs ++ L) e1.symm (by rw [← e2]; exact X'.warmed.alike) hp hb k1 k2 k3 T' rfl X'
    exact ⟨t2, st t2 a1, b1⟩
  · obtain ⟨k1, k2, k3⟩ := vx_keep h0 e1 hS hAX hf hL hF
    obtain ⟨t2, a1, b1⟩ := kx E ce q u t T'.heap (locs ++ L) e1.symm (by rw [← e2]; exact X'.warmed.alike) hp hb k1 k2 k3 (by rw [e1]; exact hce) hcv hcl T' rfl X'
    exact ⟨t2, st.trans a1, b1⟩
theorem vx_calld {S SX : Type} {post : UInt64 → S → Prop} {px : SX → Prop} {B : S → State → Prop} {BX : String → SX → State → Prop} {AX : Nat → Prop} (hr : vx_Run p l e R s m args below meth c H locs cells slots mc ms (F0 m pc ls st0) rest (va_Qd post B A1 a) (vx_X px BX AX) free) (hS : va_S A0 H0 H locs) (hA : ∀ q, q < H.size → A1 q → A0 q) (hf : ∀ q, free q → A0 q) (hAX : ∀ q, q < H.size → AX q → A0 q)
    (kx : ∀ (E : String) (ce : Cell) (q9 : Addr) (u : SX) (t : State) (H1 : Heap) (locs1 : List Loc), t.heap = H1 → s.vm.Alike t.vm → px u → BX E u t → H.size ≤ H1.size → (∀ q : Nat, q < H.size → ¬ AX q → H1[q]? = H[q]?) → va_S A0 H0 H1 locs1 → H1[q9]? = some ce → ce.vm = .none → s.vm.findClass E = some ce.cls → vx_W p l e R s m args below meth c H1 locs1 (cells + mc) (slots + ms) Q (F0 m pc ls rest) q9)
    (kk : ∀ (r : UInt64) (u : S) (t : State) (H1 : Heap) (locs1 : List Loc), t.heap = H1 → s.vm.Alike t.vm → post r u → B u t → H.size ≤ H1.size → (∀ q : Nat, q < H.size → ¬ A1 q → H1[q]? = H[q]?) → va_S A0 H0 H1 locs1 → W p l e R s m args below meth c H1 locs1 (cells + mc) (slots + ms) Q (F0 m (pc + 3) ls (.double r :: rest))) : W p l e R s m args below meth c H locs cells slots Q (F0 m pc ls st0) := by
  intro T hT X
  rcases hr T hT X with ⟨v, st₀, t, T', L, h0, X', hL, e1, e2, ⟨⟨r, u, hv, hp, hb⟩, hF⟩, st⟩ | ⟨q, st₀, t, T', L, E, ce, h0, X', hL, e1, e2, ⟨u, hp, hb, hF⟩, hce, hcv, hcl, st⟩
  · cases hv
    obtain ⟨k1, k2, k3⟩ := vx_keep h0 e1 hS hA hf hL hF
    obtain ⟨t2, a1, b1⟩ := kk r u t T'.heap (locs ++ L) e1.symm (by rw [← e2]; exact X'.warmed.alike) hp hb k1 k2 k3 T' rfl X'
    exact ⟨t2, st t2 a1, b1⟩
  · obtain ⟨k1, k2, k3⟩ := vx_keep h0 e1 hS hAX hf hL hF
    obtain ⟨t2, a1, b1⟩ := kx E ce q u t T'.heap (locs ++ L) e1.symm (by rw [← e2]; exact X'.warmed.alike) hp hb k1 k2 k3 (by rw [e1]; exact hce) hcv hcl T' rfl X'
    exact ⟨t2, st.trans a1, b1⟩
theorem vx_callv {S SX : Type} {post : S → Prop} {px : SX → Prop} {B : S → State → Prop} {BX : String → SX → State → Prop} {AX : Nat → Prop} (hr : vx_Run p l e R s m args below meth c H locs cells slots mc ms (F0 m pc ls st0) rest (va_Qv post B A1 a) (vx_X px BX AX) free) (hS : va_S A0 H0 H locs) (hA : ∀ q, q < H.size → A1 q → A0 q) (hf : ∀ q, free q → A0 q) (hAX : ∀ q, q < H.size → AX q → A0 q)
    (kx : ∀ (E : String) (ce : Cell) (q9 : Addr) (u : SX) (t : State) (H1 : Heap) (locs1 : List Loc), t.heap = H1 → s.vm.Alike t.vm → px u → BX E u t → H.size ≤ H1.size → (∀ q : Nat, q < H.size → ¬ AX q → H1[q]? = H[q]?) → va_S A0 H0 H1 locs1 → H1[q9]? = some ce → ce.vm = .none → s.vm.findClass E = some ce.cls → vx_W p l e R s m args below meth c H1 locs1 (cells + mc) (slots + ms) Q (F0 m pc ls rest) q9)
    (kk : ∀ (u : S) (t : State) (H1 : Heap) (locs1 : List Loc), t.heap = H1 → s.vm.Alike t.vm → post u → B u t → H.size ≤ H1.size → (∀ q : Nat, q < H.size → ¬ A1 q → H1[q]? = H[q]?) → va_S A0 H0 H1 locs1 → W p l e R s m args below meth c H1 locs1 (cells + mc) (slots + ms) Q (F0 m (pc + 3) ls (rest))) : W p l e R s m args below meth c H locs cells slots Q (F0 m pc ls st0) := by
  intro T hT X
  rcases hr T hT X with ⟨v, st₀, t, T', L, h0, X', hL, e1, e2, ⟨⟨u, hv, hp, hb⟩, hF⟩, st⟩ | ⟨q, st₀, t, T', L, E, ce, h0, X', hL, e1, e2, ⟨u, hp, hb, hF⟩, hce, hcv, hcl, st⟩
  · cases hv
    obtain ⟨k1, k2, k3⟩ := vx_keep h0 e1 hS hA hf hL hF
    obtain ⟨t2, a1, b1⟩ := kk u t T'.heap (locs ++ L) e1.symm (by rw [← e2]; exact X'.warmed.alike) hp hb k1 k2 k3 T' rfl X'
    exact ⟨t2, st t2 a1, b1⟩
  · obtain ⟨k1, k2, k3⟩ := vx_keep h0 e1 hS hAX hf hL hF
    obtain ⟨t2, a1, b1⟩ := kx E ce q u t T'.heap (locs ++ L) e1.symm (by rw [← e2]; exact X'.warmed.alike) hp hb k1 k2 k3 (by rw [e1]; exact hce) hcv hcl T' rfl X'
    exact ⟨t2, st.trans a1, b1⟩
/-- caught by the row x of this method's table; the rows ahead don't take it -/
theorem vx_catch {own name : String} {E : String} {ce : Cell} {q : Addr} (hown : s.vm.findClass own = some m.cls) (pre : List ExceptionTableEntry) (x : ExceptionTableEntry) (suf : List ExceptionTableEntry) (hsplit : c.exceptionTable.toList = pre ++ x :: suf)
    (hpass : ∀ z ∈ pre, covers z pc = false ∨ (z.catchType ≠ 0 ∧ ∃ nm : String, (Cond.classLink own z.catchType nm).before args s = true ∧ va_Nc E nm s)) (hx : covers x pc = true) (h0 : x.catchType ≠ 0)
    (hlink : (Cond.classLink own x.catchType name).before args s = true) (hcast : (Cond.castable E name).before args s = true) (hcell : H[q]? = some ce) (hv : ce.vm = .none) (hcl : s.vm.findClass E = some ce.cls)
    (kk : W p l e R s m args below meth c H locs cells slots Q (F0 m x.handlerPc ls [.ref q])) : vx_W p l e R s m args below meth c H locs cells slots Q (F0 m pc ls rest) q := by
  intro T hT X
  have hpl : e.platform.magicAccessors = ({} : Platform).magicAccessors := by rw [X.admits.platform]
  obtain ⟨c3, c4, hc3, hc4, hasg⟩ := Cond.castable_spec hcast
  cases Option.some.inj (hc3.symm.trans hcl)
  obtain ⟨c5, hc5, hcl5⟩ := Cond.classLink_spec hown hlink e.platform hpl
  cases Option.some.inj (hc4.symm.trans hc5)
  obtain ⟨vm', X', st⟩ := X.thenCaughtThrough q (g := F0 m pc ls rest) rfl (Steps.refl _) (by rw [hT]; exact hcell) (by rw [hv]; rfl) (by obtain ⟨k9, h9, -⟩ := Vm.findClass_spec hcl; exact ⟨k9, h9⟩) pre x suf hsplit
    (fun z hz => by
      rcases hpass z hz with h | ⟨hz0, nm, hl1, hn1⟩
      · exact Or.inl h
      · obtain ⟨c6, hc6, hcl6⟩ := Cond.classLink_spec hown hl1 e.platform hpl
        obtain ⟨a8, b8, h1, h2, h3⟩ := hn1
        cases Option.some.inj (h1.symm.trans hcl)
        cases Option.some.inj (h2.symm.trans hc6)
        exact Or.inr ⟨hz0, _, hcl6, h3⟩) hx (Or.inr ⟨h0, c4, hcl5, hasg⟩)
  obtain ⟨t, a1, b1⟩ := kk (T.setVm vm') hT X'
  exact ⟨t, st.trans a1, b1⟩
end Rows
section Ends
variable {p : Program} {l : Launch} {e : Env} {R : Room} {s : State} {m : MethodId} {args : Array Value} {below : List Frame} {meth : Method} {c : Code} {H : Heap} {locs : List Loc} {cells slots : Nat} {Q : State → Prop}
variable {mc ms : Nat} {free : Addr → Prop} {A0 A1 : Nat → Prop} {H0 : Heap} {a : Array Value} {ls : Array Slot} {st0 rest : List Value}
variable {Qc : Array Value → State → Outcome → State → Prop} {XC : String → State → State → Prop}
/-- what a body that may throw owes at its end -/
def vx_MQ (below : List Frame) (Qc : Array Value → State → Outcome → State → Prop) (XC : String → State → State → Prop) (a : Array Value) (s : State) (mc ms : Nat) (free : Addr → Prop) : State → Prop := fun t =>
  ∃ o, t.status = .running ∧ Ended t below o ∧ vx_Q Qc XC mc ms free a s o t
theorem vx_ret {g : JFrame} {mc ms : Nat} (k : W p l e R s m args below meth c H locs cells slots (MQ below Qc args s mc ms free) g) : W p l e R s m args below meth c H locs cells slots (vx_MQ below Qc XC args s mc ms free) g := by
  intro T hT X
  obtain ⟨t, a1, o, b1, b2, b3, b4⟩ := k T hT X
  exact ⟨t, a1, o, b1, b2, Or.inl ⟨b3, b4⟩⟩
/-- not caught here: it goes on to the caller -/
theorem vx_widen {g : JFrame} {q : Addr} {k n : Nat} (h1 : cells ≤ k) (h2 : slots ≤ n) (kk : vx_W p l e R s m args below meth c H locs k n Q g q) : vx_W p l e R s m args below meth c H locs cells slots Q g q := fun T hT X => kk T hT (stand_widen X h1 h2)
theorem vx_out {pc : Nat} {E : String} {ce : Cell} {q : Addr} {mc ms : Nat} (hout : ∀ x ∈ c.exceptionTable.toList, covers x pc = false) (hlocks : meth.locks = false) (hcell : H[q]? = some ce) (hv : ce.vm = .none) (hcl : s.vm.findClass E = some ce.cls)
    (hx : ∀ t : State, t.heap = H → s.vm.Alike t.vm → XC E s t) (hf : ∀ z ∈ locs, free z.base) (hc : cells ≤ mc) (hs : slots ≤ ms) :
    vx_W p l e R s m args below meth c H locs cells slots (vx_MQ below Qc XC args s mc ms free) (F0 m pc ls rest) q := by
  intro T hT X
  obtain ⟨st1, hrun, hend, hW, hsm⟩ := X.leaveThrown q (g := F0 m pc ls rest) rfl rfl rfl hout hlocks
  have hcell9 : (T.setFrames (.throwing q :: below)).heap[q]? = some ce := by
    show T.heap[q]? = some ce
    rw [hT]; exact hcell
  exact ⟨_, st1, .threw q, hrun, hend, Or.inr ⟨q, rfl, E, ce, locs, hx _ hT hW.alike, hcell9, hv, hcl, hW, hsm.mono hc hs, hf⟩⟩
theorem vx_frame {U : State} {k n : Nat} (h : s.sameButNew ({ U with vm := s.vm } : State) locs k n) : s.heap.size ≤ U.heap.size ∧ ∀ q : Nat, q < s.heap.size → (∀ z ∈ locs, z.base ≠ q) → U.heap[q]? = s.heap[q]? := by
  obtain ⟨-, h2, -, -, -, h6⟩ := h
  refine ⟨h2, fun q hq hz => ?_⟩
  obtain ⟨c9, e1, e2, e3, e4⟩ := h6 q _ (Array.getElem?_eq_getElem hq)
  have hs : c9.slots = (s.heap[q]).slots := Array.ext_getElem? fun i => e4 i fun hm => hz _ hm rfl
  have h9 : c9 = s.heap[q] := by
    rw [hs] at e2
    exact e2
  have e5 : U.heap[q]? = some c9 := e1
  rw [e5, h9, Array.getElem?_eq_getElem hq]
/-- the words of a throw but the four that speak of the heap -/
def vx_no (w : Cond) : Bool := decide (w ≠ .isRef (.static Bundle.tN "UNASSIGNED_STACK" Bundle.steD)) && decide (w ≠ .isRef (.static Bundle.tN "SUPPRESSED_SENTINEL" Bundle.listD)) && decide (w ≠ .laysStatic Bundle.tN "UNASSIGNED_STACK" Bundle.steD) && decide (w ≠ .laysStatic Bundle.tN "SUPPRESSED_SENTINEL" Bundle.listD)
def vx_at0 (own : String) (ic : Nat) (X : String) (names : List String) : List Cond := (Bundle.ownAtoms0 own ic X names).filter vx_no
def vx_atS (own : String) (ic : Nat) (X : String) (names : List String) : List Cond := (Bundle.ownAtoms own ic X names).filter vx_no
/-- a word that the tables alone decide, or a good one -/
def vx_ot (w : Cond) : Bool := w.onTables || goodWord w
theorem vx_ot_at {args a' : Array Value} {s U : State} {w : Cond} (hW : s.WarmedH U.vm) (hvm : s.vm = U.vm) (hg : vx_ot w = true) (h : w.before args s = true) : w.before a' U = true := by
  simp only [vx_ot, Bool.or_eq_true] at hg
  rcases hg with hg | hg
  · exact va_tabs hg hvm h
  · exact word_at hW (good_of_word hg) h
/-- a list's words: the good ones out of the method's own list, the others by premises of their own -/
theorem vx_hat {args : Array Value} {s : State} {L B : List Cond} (h1 : ∀ w ∈ L.filter goodWord, w.before args s = true) (h2 : ∀ w ∈ L.filter (fun w => !goodWord w), w ∈ B) (h3 : ∀ w ∈ B, w.before args s = true) : ∀ w ∈ L, w.before args s = true := by
  intro w hw
  by_cases g : goodWord w = true
  · exact h1 w (List.mem_filter.mpr ⟨hw, g⟩)
  · refine h3 w (h2 w (List.mem_filter.mpr ⟨hw, ?_⟩))
    show (!goodWord w) = true
    cases hgw : goodWord w
    · rfl
    · exact absurd hgw g
theorem vx_c {args : Array Value} {s : State} {w : Cond} {B : List Cond} (h : w.before args s = true) (t : ∀ w ∈ B, w.before args s = true) : ∀ w' ∈ w :: B, w'.before args s = true := fun w' h' => (List.mem_cons.mp h').elim (fun e => by rw [e]; exact h) (t w')
theorem vx_n {args : Array Value} {s : State} : ∀ w ∈ ([] : List Cond), w.before args s = true := fun _ h => nomatch h
theorem vx_own {args : Array Value} {s : State} {L : List Cond} (h1 : ∀ w ∈ L.filter vx_no, w.before args s = true)
    (hU : (Cond.isRef (.static Bundle.tN "UNASSIGNED_STACK" Bundle.steD)).before args s = true) (hN : (Cond.isRef (.static Bundle.tN "SUPPRESSED_SENTINEL" Bundle.listD)).before args s = true)
    (lU : (Cond.laysStatic Bundle.tN "UNASSIGNED_STACK" Bundle.steD).before args s = true) (lN : (Cond.laysStatic Bundle.tN "SUPPRESSED_SENTINEL" Bundle.listD).before args s = true) : ∀ w ∈ L, w.before args s = true := by
  intro w hw
  by_cases e1 : w = .isRef (.static Bundle.tN "UNASSIGNED_STACK" Bundle.steD)
  · rw [e1]; exact hU
  · by_cases e2 : w = .isRef (.static Bundle.tN "SUPPRESSED_SENTINEL" Bundle.listD)
    · rw [e2]; exact hN
    · by_cases e3 : w = .laysStatic Bundle.tN "UNASSIGNED_STACK" Bundle.steD
      · rw [e3]; exact lU
      · by_cases e4 : w = .laysStatic Bundle.tN "SUPPRESSED_SENTINEL" Bundle.listD
        · rw [e4]; exact lN
        · exact h1 w (List.mem_filter.mpr ⟨hw, by unfold vx_no; rw [decide_eq_true e1, decide_eq_true e2, decide_eq_true e3, decide_eq_true e4]; rfl⟩)
/-- where a static field lies, its class's statics cell in H -/
def vx_L (C n d : String) (A : Nat → Prop) (U : State) (H : Heap) : Prop := ∃ (c : ClassId) (k : Class) (i : Nat) (f : Field) (a : Nat) (cell : Cell), U.vm.findClass C = some c ∧ U.fieldFound? C n d = some (c, k, i, f) ∧ f.isStatic = true ∧ k.statics = some a ∧ H[a]? = some cell ∧ cell.vm.isStatics = true ∧ cell.cls = c ∧ f.slot < cell.slots.size ∧ k.staticTypes[f.slot]? = some f.type ∧ ¬ A a
theorem vx_L.moved {C n d : String} {A : Nat → Prop} {u U : State} {H : Heap} (hvm : u.vm.Alike U.vm) (h : vx_L C n d A u H) : vx_L C n d A U H := by
  obtain ⟨c, k, i, f, a, cell, h1, h2, h3, h4, h5, h6, h7, h8, h9, h10⟩ := h
  obtain ⟨k', hi', he⟩ := State.fieldFound?_setVm hvm h2
  exact ⟨c, k', i, f, a, cell, by rw [hvm.findClass]; exact h1, hi', h3, by rw [he]; exact h4, h5, h6, h7, h8, by rw [he]; exact h9, h10⟩
theorem vx_L.kept {C n d : String} {A : Nat → Prop} {U : State} {H H1 : Heap} (h : vx_L C n d A U H) (hq : ∀ a : Nat, a < H.size → ¬ A a → H1[a]? = H[a]?) : vx_L C n d A U H1 := by
  obtain ⟨c, k, i, f, a, cell, h1, h2, h3, h4, h5, h6, h7, h8, h9, h10⟩ := h
  exact ⟨c, k, i, f, a, cell, h1, h2, h3, h4, by rw [hq a (Array.getElem?_eq_some_iff.mp h5).1 h10]; exact h5, h6, h7, h8, h9, h10⟩
theorem vx_L.narrow {C n d : String} {A B : Nat → Prop} {U : State} {H : Heap} (h : vx_L C n d A U H) (hAB : ∀ q, B q → A q) : vx_L C n d B U H := by
  obtain ⟨c, k, i, f, a, cell, h1, h2, h3, h4, h5, h6, h7, h8, h9, h10⟩ := h
  exact ⟨c, k, i, f, a, cell, h1, h2, h3, h4, h5, h6, h7, h8, h9, fun z => h10 (hAB _ z)⟩
theorem vx_L.word {C n d : String} {A : Nat → Prop} {s : State} {args : Array Value} (h : vx_L C n d A s s.heap) : (Cond.laysStatic C n d).before args s = true := by
  obtain ⟨c, k, i, f, a, cell, h1, h2, h3, h4, h5, h6, h7, h8, h9, -⟩ := h
  show (Cond.laysStatic C n d).holds args s none s [] = true
  exact Cond.laysStatic_of h1 h2 h3 h4 h5 h6 h7 h8 h9
/-- .. and what it holds: null or some reference -/
def vx_Zq (C n d : String) (A : Nat → Prop) (U : State) (H : Heap) : Prop := va_Zq C n d A U H ∧ vx_L C n d A U H
theorem vx_Zq.moved {C n d : String} {A : Nat → Prop} {u U : State} {H : Heap} (hvm : u.vm.Alike U.vm) (h : vx_Zq C n d A u H) : vx_Zq C n d A U H := ⟨va_Zq.moved hvm h.1, vx_L.moved hvm h.2⟩
theorem vx_Zq.kept {C n d : String} {A : Nat → Prop} {U : State} {H H1 : Heap} (h : vx_Zq C n d A U H) (hq : ∀ a : Nat, a < H.size → ¬ A a → H1[a]? = H[a]?) : vx_Zq C n d A U H1 := ⟨va_Zq.kept h.1 hq, vx_L.kept h.2 hq⟩
theorem vx_Zq.narrow {C n d : String} {A B : Nat → Prop} {U : State} {H : Heap} (h : vx_Zq C n d A U H) (hAB : ∀ q, B q → A q) : vx_Zq C n d B U H := ⟨va_Zq.narrow h.1 hAB, vx_L.narrow h.2 hAB⟩
theorem vx_Zqof {args : Array Value} {s : State} {C n d : String} {A : Nat → Prop} (hl : (Cond.laysStatic C n d).before args s = true) (hini : (Cond.initialized C).before args s = true) (h : (Cond.isRef (.static C n d)).before args s = true) (hA : ∀ a : Nat, a < s.heap.size → ¬ A a) : vx_Zq C n d A s s.heap := by
  refine ⟨va_Zqof hl hini h hA, ?_⟩
  obtain ⟨c, k, i, f, a, cell, h1, h2, h3, h4, h5, h6, h7, h8, h9⟩ := Cond.laysStatic_spec hl
  exact ⟨c, k, i, f, a, cell, h1, h2, h3, h4, h5, h6, h7, h8, h9, hA a (Array.getElem?_eq_some_iff.mp h5).1⟩
theorem vx_isRef {C n d : String} {v : Value} {A : Nat → Prop} {s : State} {args : Array Value} (h : va_Z C n d v A s s.heap) (hv : v.isRef = true) : (Cond.isRef (.static C n d)).before args s = true := by
  obtain ⟨cf, kf, fi, f, a, cell, h1, h2, h3, h4, h5, h6, h7, -⟩ := h
  have he : (Term.static C n d).eval args s none [] s = some v := by
    simp [Term.eval, State.fieldNamed?, h1, h2, h4, h5, h6, h7]
  simp only [Cond.before, Cond.holds, Cond.value, he]
  cases v <;> simp_all [Value.isRef]
theorem vx_isRefq {C n d : String} {A : Nat → Prop} {s : State} {args : Array Value} (h : va_Zq C n d A s s.heap) : (Cond.isRef (.static C n d)).before args s = true := by
  rcases h with h | ⟨t, h⟩
  · exact vx_isRef h rfl
  · exact vx_isRef h rfl
/-- the same frame, seen from here: as if the method were called anew in this heap -/
theorem vx_rebase {T : State} (X : Stand p l e R s m args below meth c T locs cells slots) {R' : Room} (hf : R'.frames ≤ R.frames) (hl : R'.locals ≤ R.locals) (hc : cells + R'.cells ≤ R.cells) (hs : slots + R'.slots ≤ R.slots) :
    Stand p l e R' ((T.setVm s.vm).setFrames (.invoking m args :: below)) m args below meth c T [] 0 0 := by
  have htop : (T.setVm s.vm).topJava?.isSome := X.here.top
  have hF : ((T.setVm s.vm).setFrames (.invoking m args :: below)).frames = .invoking m args :: below := State.frames_setFrames _ (State.cur_lt_of_top htop)
  obtain ⟨g₀, hg0⟩ := Option.isSome_iff_exists.mp htop
  obtain ⟨r, hr⟩ := State.topJava?_eq_some.mp hg0
  have hl9 : e.platform.stackLimits (T.setVm s.vm).me = e.platform.stackLimits s.me := X.limits
  have hb9 : (T.setVm s.vm).me.stackBytes = s.me.stackBytes := X.bytes
  refine ⟨X.admits, X.cas, X.clock, hF, ?_, X.hears, X.method, X.code, X.here, X.tail, X.warmed, ?_, ?_, ?_⟩
  · have h := X.room
    have hU : ((T.setVm s.vm).setFrames (.invoking m args :: below)).localsInUse = s.localsInUse := by
      rw [State.localsInUse_invoking hF (meth := meth) (c := c) X.method X.code, State.localsInUse_invoking X.frames X.method X.code]
    simp only [State.hasRoom, Bool.and_eq_true, decide_eq_true_eq] at h ⊢
    obtain ⟨⟨⟨⟨h1, h2, h3, h4, h5, h6⟩, h7⟩, h8⟩, h9⟩ := h
    rw [X.frames, List.length_cons] at h2 h3
    have q1 := X.heapSize
    have q2 := X.used
    simp only [hF, hU, List.length_cons, State.stackLimits_setFrames, State.stackBytes_setFrames, hl9, hb9]
    refine ⟨⟨⟨⟨by omega, by omega, by omega, by omega, by omega, h6⟩, ?_⟩, ?_⟩, X.book⟩
    · show T.heap.size + R'.cells ≤ e.platform.maxCells
      omega
    · show T.slotsUsed + R'.slots ≤ e.platform.maxSlots
      omega
  · rw [State.stackLimits_setFrames]; rfl
  · rw [State.stackBytes_setFrames]; rfl
  · refine ⟨?_, Nat.le_refl _, Nat.le_refl _, ?_, ?_, fun a c9 h9 => ⟨c9, h9, rfl, rfl, fun _ _ => rfl⟩⟩
    · obtain ⟨t, ht, -⟩ := State.frames_cons hr
      show T.setVm s.vm = { ((T.setVm s.vm).setFrames (.invoking m args :: below)).setFrames (T.setVm s.vm).frames with heap := T.heap, slotsUsed := T.slotsUsed }
      rw [State.setFrames_setFrames, State.setFrames_self ht]
      rfl
    · show T.slotsUsed = T.slotsUsed + ((T.heap.toList.drop T.heap.size).map (·.slots.size)).sum
      rw [List.drop_eq_nil_of_le (Nat.le_of_eq Array.length_toList)]
      rfl
    · show ((T.heap.toList.drop T.heap.size).map (·.slots.size)).sum ≤ 0
      rw [List.drop_eq_nil_of_le (Nat.le_of_eq Array.length_toList)]
      exact Nat.le_refl _
/-- 'throw new E()': new; dup; invokespecial; athrow -/
theorem vx_throw0 {cc : ByteArray} {pc : Nat} (hexec : p.tables.exec = Jvm.exec) (hb : c.code = cc) (hl : l.stackTraces = false) {own cls : String} {names : List String} {ik ic mc ms : Nat} {A : Nat → Prop}
    (hown : s.vm.findClass own = some m.cls) (hcls : Bundle.fit cls = true) (hnames : ∀ n ∈ names, Bundle.fit n = true)
    (hk : (Cond.classLink own ik cls).before args s = true) (hini : (Cond.initialized cls).before args s = true) (hat : ∀ w ∈ vx_at0 own ic cls names, w.before args s = true)
    (hgood : ∀ w ∈ Cond.classLink own ik cls :: Cond.initialized cls :: vx_at0 own ic cls names, vx_ot w = true)
    (hU : vx_Zq Bundle.tN "UNASSIGNED_STACK" Bundle.steD A s s.heap) (hN : vx_Zq Bundle.tN "SUPPRESSED_SENTINEL" Bundle.listD A s s.heap) (hS : va_S A s.heap H locs) (hsize : ls.size = c.maxLocals)
    (d0 : decode cc pc = .ok (.new ik, 3)) (d3 : decode cc (pc + 3) = .ok (.dup, 1)) (d4 : decode cc (pc + 4) = .ok (.invokespecial ic, 3)) (d7 : decode cc (pc + 7) = .ok (.athrow, 1))
    (hout : ∀ x ∈ c.exceptionTable.toList, covers x (pc + 7) = false)
    (hRframes : names.length + 3 < R.frames) (hRlocals : (rest.map fun v => v.category).sum + (13 * (names.length + 1) + 42) ≤ R.locals) (hRcells : cells + 1 ≤ R.cells) (hRslots : slots + 6 ≤ R.slots) (hlocks : meth.locks = false)
    (hx : ∀ t : State, s.vm.Alike t.vm → H.size ≤ t.heap.size → (∀ q : Nat, q < H.size → t.heap[q]? = H[q]?) → XC cls s t)
    (hf : ∀ z ∈ locs, free z.base) (hc : cells + 1 ≤ mc) (hs : slots + 6 ≤ ms) :
    W p l e R s m args below meth c H locs cells slots (vx_MQ below Qc XC args s mc ms free) (F0 m pc ls rest) := by
  intro T hT X
  have htr : e.platform.stackTraces = false := (show e.platform.stackTraces = l.stackTraces by rw [X.admits.platform]).trans hl
  have Y := vx_rebase X (R' := { frames := R.frames, locals := R.locals, cells := 1, slots := 6 }) (Nat.le_refl _) (Nat.le_refl _) hRcells hRslots
  obtain ⟨s', hA⟩ : ∃ z, z = (T.setVm s.vm).setFrames (.invoking m args :: below) := ⟨_, rfl⟩
  rw [← hA] at Y
  have hvm : s'.vm = s.vm := by rw [hA]; rfl
  have hhp : s'.heap = H := by rw [hA]; exact hT
  have hW0 : s.WarmedH s'.vm := by rw [hvm]; exact State.WarmedH.refl s
  have hat' : ∀ w ∈ vx_at0 own ic cls names, w.before args s' = true := fun w hw => vx_ot_at hW0 hvm.symm (hgood w (List.mem_cons_of_mem _ (List.mem_cons_of_mem _ hw))) (hat w hw)
  have hk' : (Cond.classLink own ik cls).before args s' = true := vx_ot_at hW0 hvm.symm (hgood _ List.mem_cons_self) hk
  have hini' : (Cond.initialized cls).before args s' = true := vx_ot_at hW0 hvm.symm (hgood _ (List.mem_cons_of_mem _ List.mem_cons_self)) hini
  have hU' : vx_Zq Bundle.tN "UNASSIGNED_STACK" Bundle.steD A s' s'.heap := by rw [hhp]; exact vx_Zq.moved hW0.alike (hU.kept hS.2.1)
  have hN' : vx_Zq Bundle.tN "SUPPRESSED_SENTINEL" Bundle.listD A s' s'.heap := by rw [hhp]; exact vx_Zq.moved hW0.alike (hN.kept hS.2.1)
  have h : ∀ w ∈ Bundle.ownAtoms0 own ic cls names, w.before args s' = true := vx_own hat' (vx_isRefq hU'.1) (vx_isRefq hN'.1) hU'.2.word hN'.2.word
  have hown' : s'.vm.findClass own = some m.cls := by rw [hvm]; exact hown
  have hins : (Cond.instantiable cls 6).before args s' = true := h _ (by simp [Bundle.ownAtoms0])
  obtain ⟨vm₁, cX, kX, hfX, hkX, -, -, X₁, st1⟩ := Y.newCold hexec (own := own) (C := cls) (index := ik) (n := 6) hown' hk' hins hini'
    (g := F0 m pc ls rest) rfl (by rw [hb]; exact d0) (Nat.le_refl _) (Nat.le_refl _)
  generalize hT1 : (T.setVm vm₁).pushCell { cls := cX, slots := kX.instanceTypes.map defaultValue, vm := .none } = T1 at X₁ st1
  have hcat : (Value.ref T.heap.size).category = 1 := rfl
  have hcellA : T1.heap[T.heap.size]? = some (freshCell cX kX) := by rw [← hT1]; exact State.heap_pushCell_size _ _
  have d3' : decode c.code (pc + 3) = .ok (.dup, 1) := by rw [hb]; exact d3
  obtain ⟨U, hsteps, hrun, hend, hW, hsame, ce, hce, hO⟩ := X₁.ctorThrow0 hexec htr (own := own) (cls := cls) (names := names) (ic := ic) hown' hcls hnames h (fun x hx => nomatch hx) hfX hkX hcellA (by rw [hhp, hT]; exact Nat.le_refl _)
    (g := { method := m, pc := pc + 4, locals := ls, stack := .ref T.heap.size :: .ref T.heap.size :: rest, locked := none }) rfl hsize rfl rfl (rest := rest) rfl
    (by rw [hb]; exact d4) (by rw [hb]; exact d7) hout hRframes (by simp only [List.map_cons, List.sum_cons, hcat]; omega) hlocks
  obtain ⟨f1, f2⟩ := vx_frame hsame
  rw [hhp] at f1 f2
  have hWs : s.WarmedH U.vm := State.WarmedH.trans hW0 hW
  have hcl : s.vm.findClass cls = some ce.cls := by
    have h9 := hO.cls
    rw [hvm] at h9
    exact h9
  have hall : s.sameButNew ({ U with vm := s.vm } : State) locs mc ms := by
    subst hA
    obtain ⟨e1, e2⟩ := hsame
    rw [State.setFrames_setFrames] at e1
    have h2 : (T.setVm s.vm).sameButNew ({ U with vm := s.vm } : State) [] (0 + 1) (0 + 6) := ⟨e1, e2⟩
    have h3 := X.same.trans h2
    rw [List.append_nil] at h3
    exact h3.mono hc hs
  refine ⟨U, ?_, .threw T.heap.size, hrun, hend, Or.inr ⟨T.heap.size, rfl, cls, ce, locs, hx U hWs.alike f1 (fun q hq => f2 q hq (fun z hz => nomatch hz)), hce, hO.vm, hcl, hWs, hall, hf⟩⟩
  refine st1 _ ?_
  show Steps p.tables e below (T1.setTop { method := m, pc := pc + 3, locals := ls, stack := .ref T.heap.size :: rest, locked := none }) _
  jvm_step X₁.here [X₁.here.top, hexec, d3', Value.category]
  exact hsteps
/-- 'throw new E("text")': new; dup; ldc; invokespecial; athrow -/
theorem vx_throwS {cc : ByteArray} {pc : Nat} (hexec : p.tables.exec = Jvm.exec) (hb : c.code = cc) (hl : l.stackTraces = false) {own cls text : String} {names : List String} {ik is ic mc ms sa : Nat} {A : Nat → Prop}
    (hown : s.vm.findClass own = some m.cls) (hcls : Bundle.fit cls = true) (hnames : ∀ n ∈ names, Bundle.fit n = true)
    (hk : (Cond.classLink own ik cls).before args s = true) (hini : (Cond.initialized cls).before args s = true) (hstr : vk_R own is text sa s) (hat : ∀ w ∈ vx_atS own ic cls names, w.before args s = true)
    (hgood : ∀ w ∈ Cond.classLink own ik cls :: Cond.initialized cls :: vx_atS own ic cls names, vx_ot w = true)
    (hU : vx_Zq Bundle.tN "UNASSIGNED_STACK" Bundle.steD A s s.heap) (hN : vx_Zq Bundle.tN "SUPPRESSED_SENTINEL" Bundle.listD A s s.heap) (hS : va_S A s.heap H locs) (hsize : ls.size = c.maxLocals)
    (d0 : decode cc pc = .ok (.new ik, 3)) (d3 : decode cc (pc + 3) = .ok (.dup, 1)) (d4 : decode cc (pc + 4) = .ok (.ldc is, 2)) (d6 : decode cc (pc + 6) = .ok (.invokespecial ic, 3)) (d9 : decode cc (pc + 9) = .ok (.athrow, 1))
    (hout : ∀ x ∈ c.exceptionTable.toList, covers x (pc + 9) = false)
    (hRframes : names.length + 3 < R.frames) (hRlocals : (rest.map fun v => v.category).sum + (13 * (names.length + 1) + 43) ≤ R.locals) (hRcells : cells + 1 ≤ R.cells) (hRslots : slots + 6 ≤ R.slots) (hlocks : meth.locks = false)
    (hx : ∀ t : State, s.vm.Alike t.vm → H.size ≤ t.heap.size → (∀ q : Nat, q < H.size → t.heap[q]? = H[q]?) → XC cls s t)
    (hf : ∀ z ∈ locs, free z.base) (hc : cells + 1 ≤ mc) (hs : slots + 6 ≤ ms) :
    W p l e R s m args below meth c H locs cells slots (vx_MQ below Qc XC args s mc ms free) (F0 m pc ls rest) := by
  intro T hT X
  have htr : e.platform.stackTraces = false := (show e.platform.stackTraces = l.stackTraces by rw [X.admits.platform]).trans hl
  have Y := vx_rebase X (R' := { frames := R.frames, locals := R.locals, cells := 1, slots := 6 }) (Nat.le_refl _) (Nat.le_refl _) hRcells hRslots
  obtain ⟨s', hA⟩ : ∃ z, z = (T.setVm s.vm).setFrames (.invoking m args :: below) := ⟨_, rfl⟩
  rw [← hA] at Y
  have hvm : s'.vm = s.vm := by rw [hA]; rfl
  have hhp : s'.heap = H := by rw [hA]; exact hT
  have hW0 : s.WarmedH s'.vm := by rw [hvm]; exact State.WarmedH.refl s
  have hat' : ∀ w ∈ vx_atS own ic cls names, w.before args s' = true := fun w hw => vx_ot_at hW0 hvm.symm (hgood w (List.mem_cons_of_mem _ (List.mem_cons_of_mem _ hw))) (hat w hw)
  have hk' : (Cond.classLink own ik cls).before args s' = true := vx_ot_at hW0 hvm.symm (hgood _ List.mem_cons_self) hk
  have hini' : (Cond.initialized cls).before args s' = true := vx_ot_at hW0 hvm.symm (hgood _ (List.mem_cons_of_mem _ List.mem_cons_self)) hini
  have hU' : vx_Zq Bundle.tN "UNASSIGNED_STACK" Bundle.steD A s' s'.heap := by rw [hhp]; exact vx_Zq.moved hW0.alike (hU.kept hS.2.1)
  have hN' : vx_Zq Bundle.tN "SUPPRESSED_SENTINEL" Bundle.listD A s' s'.heap := by rw [hhp]; exact vx_Zq.moved hW0.alike (hN.kept hS.2.1)
  have h : ∀ w ∈ Bundle.ownAtoms own ic cls names, w.before args s' = true := vx_own hat' (vx_isRefq hU'.1) (vx_isRefq hN'.1) hU'.2.word hN'.2.word
  have hown' : s'.vm.findClass own = some m.cls := by rw [hvm]; exact hown
  have hins : (Cond.instantiable cls 6).before args s' = true := h _ (by simp [Bundle.ownAtoms])
  obtain ⟨vm₁, cX, kX, hfX, hkX, -, -, X₁, st1⟩ := Y.newCold hexec (own := own) (C := cls) (index := ik) (n := 6) hown' hk' hins hini'
    (g := F0 m pc ls rest) rfl (by rw [hb]; exact d0) (Nat.le_refl _) (Nat.le_refl _)
  generalize hT1 : (T.setVm vm₁).pushCell { cls := cX, slots := kX.instanceTypes.map defaultValue, vm := .none } = T1 at X₁ st1
  have hcat : (Value.ref T.heap.size).category = 1 := rfl
  have hcellA : T1.heap[T.heap.size]? = some (freshCell cX kX) := by rw [← hT1]; exact State.heap_pushCell_size _ _
  have d3' : decode c.code (pc + 3) = .ok (.dup, 1) := by rw [hb]; exact d3
  have d4' : decode c.code (pc + 4) = .ok (.ldc is, 2) := by rw [hb]; exact d4
  have hstr' : vk_R own is text sa s' := vk_R.warm hW0 hstr
  obtain ⟨U, hsteps, hrun, hend, hW, hsame, ce, hce, hO⟩ := X₁.ctorThrowS hexec htr (own := own) (cls := cls) (names := names) (ic := ic) hown' hcls hnames h (fun x hx => nomatch hx) hfX hkX hcellA (by rw [hhp, hT]; exact Nat.le_refl _) (msg := .ref sa) rfl
    (g := { method := m, pc := pc + 6, locals := ls, stack := .ref sa :: .ref T.heap.size :: .ref T.heap.size :: rest, locked := none }) rfl hsize rfl rfl (rest := rest) rfl
    (by rw [hb]; exact d6) (by rw [hb]; exact d9) hout hRframes (by simp only [List.map_cons, List.sum_cons, hcat]; omega) hlocks
  obtain ⟨f1, f2⟩ := vx_frame hsame
  rw [hhp] at f1 f2
  have hWs : s.WarmedH U.vm := State.WarmedH.trans hW0 hW
  have hcl : s.vm.findClass cls = some ce.cls := by
    have h9 := hO.cls
    rw [hvm] at h9
    exact h9
  have hall : s.sameButNew ({ U with vm := s.vm } : State) locs mc ms := by
    subst hA
    obtain ⟨e1, e2⟩ := hsame
    rw [State.setFrames_setFrames] at e1
    have h2 : (T.setVm s.vm).sameButNew ({ U with vm := s.vm } : State) [] (0 + 1) (0 + 6) := ⟨e1, e2⟩
    have h3 := X.same.trans h2
    rw [List.append_nil] at h3
    exact h3.mono hc hs
  refine ⟨U, ?_, .threw T.heap.size, hrun, hend, Or.inr ⟨T.heap.size, rfl, cls, ce, locs, hx U hWs.alike f1 (fun q hq => f2 q hq (fun z hz => nomatch hz)), hce, hO.vm, hcl, hWs, hall, hf⟩⟩
  refine st1 _ ?_
  show Steps p.tables e below (T1.setTop { method := m, pc := pc + 3, locals := ls, stack := .ref T.heap.size :: rest, locked := none }) _
  jvm_step X₁.here [X₁.here.top, hexec, d3', Value.category]
  exact X₁.ldcString hexec (own := own) (text := text) (index := is) (a := sa) hown' hstr'.1 hstr'.2
    (g := { method := m, pc := pc + 4, locals := ls, stack := .ref T.heap.size :: .ref T.heap.size :: rest, locked := none }) rfl d4' _ hsteps
/-- 'throw new E("text")', the text by a wide index -/
theorem vx_throwSW {cc : ByteArray} {pc : Nat} (hexec : p.tables.exec = Jvm.exec) (hb : c.code = cc) (hl : l.stackTraces = false) {own cls text : String} {names : List String} {ik is ic mc ms sa : Nat} {A : Nat → Prop}
    (hown : s.vm.findClass own = some m.cls) (hcls : Bundle.fit cls = true) (hnames : ∀ n ∈ names, Bundle.fit n = true)
    (hk : (Cond.classLink own ik cls).before args s = true) (hini : (Cond.initialized cls).before args s = true) (hstr : vk_R own is text sa s) (hat : ∀ w ∈ vx_atS own ic cls names, w.before args s = true)
    (hgood : ∀ w ∈ Cond.classLink own ik cls :: Cond.initialized cls :: vx_atS own ic cls names, vx_ot w = true)
    (hU : vx_Zq Bundle.tN "UNASSIGNED_STACK" Bundle.steD A s s.heap) (hN : vx_Zq Bundle.tN "SUPPRESSED_SENTINEL" Bundle.listD A s s.heap) (hS : va_S A s.heap H locs) (hsize : ls.size = c.maxLocals)
    (d0 : decode cc pc = .ok (.new ik, 3)) (d3 : decode cc (pc + 3) = .ok (.dup, 1)) (d4 : decode cc (pc + 4) = .ok (.ldc_w is, 3)) (d7 : decode cc (pc + 7) = .ok (.invokespecial ic, 3)) (d10 : decode cc (pc + 10) = .ok (.athrow, 1))
    (hout : ∀ x ∈ c.exceptionTable.toList, covers x (pc + 10) = false)
    (hRframes : names.length + 3 < R.frames) (hRlocals : (rest.map fun v => v.category).sum + (13 * (names.length + 1) + 43) ≤ R.locals) (hRcells : cells + 1 ≤ R.cells) (hRslots : slots + 6 ≤ R.slots) (hlocks : meth.locks = false)
    (hx : ∀ t : State, s.vm.Alike t.vm → H.size ≤ t.heap.size → (∀ q : Nat, q < H.size → t.heap[q]? = H[q]?) → XC cls s t)
    (hf : ∀ z ∈ locs, free z.base) (hc : cells + 1 ≤ mc) (hs : slots + 6 ≤ ms) :
    W p l e R s m args below meth c H locs cells slots (vx_MQ below Qc XC args s mc ms free) (F0 m pc ls rest) := by
  intro T hT X
  have htr : e.platform.stackTraces = false := (show e.platform.stackTraces = l.stackTraces by rw [X.admits.platform]).trans hl
  have Y := vx_rebase X (R' := { frames := R.frames, locals := R.locals, cells := 1, slots := 6 }) (Nat.le_refl _) (Nat.le_refl _) hRcells hRslots
  obtain ⟨s', hA⟩ : ∃ z, z = (T.setVm s.vm).setFrames (.invoking m args :: below) := ⟨_, rfl⟩
  rw [← hA] at Y
  have hvm : s'.vm = s.vm := by rw [hA]; rfl
  have hhp : s'.heap = H := by rw [hA]; exact hT
  have hW0 : s.WarmedH s'.vm := by rw [hvm]; exact State.WarmedH.refl s
  have hat' : ∀ w ∈ vx_atS own ic cls names, w.before args s' = true := fun w hw => vx_ot_at hW0 hvm.symm (hgood w (List.mem_cons_of_mem _ (List.mem_cons_of_mem _ hw))) (hat w hw)
  have hk' : (Cond.classLink own ik cls).before args s' = true := vx_ot_at hW0 hvm.symm (hgood _ List.mem_cons_self) hk
  have hini' : (Cond.initialized cls).before args s' = true := vx_ot_at hW0 hvm.symm (hgood _ (List.mem_cons_of_mem _ List.mem_cons_self)) hini
  have hU' : vx_Zq Bundle.tN "UNASSIGNED_STACK" Bundle.steD A s' s'.heap := by rw [hhp]; exact vx_Zq.moved hW0.alike (hU.kept hS.2.1)
  have hN' : vx_Zq Bundle.tN "SUPPRESSED_SENTINEL" Bundle.listD A s' s'.heap := by rw [hhp]; exact vx_Zq.moved hW0.alike (hN.kept hS.2.1)
  have h : ∀ w ∈ Bundle.ownAtoms own ic cls names, w.before args s' = true := vx_own hat' (vx_isRefq hU'.1) (vx_isRefq hN'.1) hU'.2.word hN'.2.word
  have hown' : s'.vm.findClass own = some m.cls := by rw [hvm]; exact hown
  have hins : (Cond.instantiable cls 6).before args s' = true := h _ (by simp [Bundle.ownAtoms])
  obtain ⟨vm₁, cX, kX, hfX, hkX, -, -, X₁, st1⟩ := Y.newCold hexec (own := own) (C := cls) (index := ik) (n := 6) hown' hk' hins hini'
    (g := F0 m pc ls rest) rfl (by rw [hb]; exact d0) (Nat.le_refl _) (Nat.le_refl _)
  generalize hT1 : (T.setVm vm₁).pushCell { cls := cX, slots := kX.instanceTypes.map defaultValue, vm := .none } = T1 at X₁ st1
  have hcat : (Value.ref T.heap.size).category = 1 := rfl
  have hcellA : T1.heap[T.heap.size]? = some (freshCell cX kX) := by rw [← hT1]; exact State.heap_pushCell_size _ _
  have d3' : decode c.code (pc + 3) = .ok (.dup, 1) := by rw [hb]; exact d3
  have d4' : decode c.code (pc + 4) = .ok (.ldc_w is, 3) := by rw [hb]; exact d4
  have hstr' : vk_R own is text sa s' := vk_R.warm hW0 hstr
  obtain ⟨U, hsteps, hrun, hend, hW, hsame, ce, hce, hO⟩ := X₁.ctorThrowS hexec htr (own := own) (cls := cls) (names := names) (ic := ic) hown' hcls hnames h (fun x hx => nomatch hx) hfX hkX hcellA (by rw [hhp, hT]; exact Nat.le_refl _) (msg := .ref sa) rfl
    (g := { method := m, pc := pc + 7, locals := ls, stack := .ref sa :: .ref T.heap.size :: .ref T.heap.size :: rest, locked := none }) rfl hsize rfl rfl (rest := rest) rfl
    (by rw [hb]; exact d7) (by rw [hb]; exact d10) hout hRframes (by simp only [List.map_cons, List.sum_cons, hcat]; omega) hlocks
  obtain ⟨f1, f2⟩ := vx_frame hsame
  rw [hhp] at f1 f2
  have hWs : s.WarmedH U.vm := State.WarmedH.trans hW0 hW
  have hcl : s.vm.findClass cls = some ce.cls := by
    have h9 := hO.cls
    rw [hvm] at h9
    exact h9
  have hall : s.sameButNew ({ U with vm := s.vm } : State) locs mc ms := by
    subst hA
    obtain ⟨e1, e2⟩ := hsame
    rw [State.setFrames_setFrames] at e1
    have h2 : (T.setVm s.vm).sameButNew ({ U with vm := s.vm } : State) [] (0 + 1) (0 + 6) := ⟨e1, e2⟩
    have h3 := X.same.trans h2
    rw [List.append_nil] at h3
    exact h3.mono hc hs
  refine ⟨U, ?_, .threw T.heap.size, hrun, hend, Or.inr ⟨T.heap.size, rfl, cls, ce, locs, hx U hWs.alike f1 (fun q hq => f2 q hq (fun z hz => nomatch hz)), hce, hO.vm, hcl, hWs, hall, hf⟩⟩
  refine st1 _ ?_
  show Steps p.tables e below (T1.setTop { method := m, pc := pc + 3, locals := ls, stack := .ref T.heap.size :: rest, locked := none }) _
  jvm_step X₁.here [X₁.here.top, hexec, d3', Value.category]
  exact X₁.ldcStringW hexec (own := own) (text := text) (index := is) (a := sa) hown' hstr'.1 hstr'.2
    (g := { method := m, pc := pc + 4, locals := ls, stack := .ref T.heap.size :: .ref T.heap.size :: rest, locked := none }) rfl d4' _ hsteps
end Ends
section Bodies
variable {l : Launch}
theorem vx_ofW {y : MethodName} {ws ws' : List Cond} {rm : Room} {Pc : Array Value → State → Prop} {Qc : Array Value → State → Outcome → State → Prop} {XC : String → State → State → Prop} {mc ms : Nat} {free : Addr → Prop} {cc : ByteArray} {maxL : Nat} {ret : Option FieldType}
    (hy : plainName y.cls = true) (hw : ws = Cond.code y cc maxL ret :: ws')
    (body : ∀ p e s m args below meth c s₁, BodyLoose p l y (headSpec ws rm) cc maxL ret e s m args below meth c s₁ → c.maxLocals = maxL → (∀ x ∈ c.exceptionTable.toList, False) → Pc args s →
      W p l e (headSpec ws rm).room s m args below meth c s.heap [] 0 0 (vx_MQ below Qc XC args s mc ms free) (entryFrame m args maxL)) : vx_Met l y ws rm Pc Qc XC mc ms free := by
  refine MetFree.of_bodyS (code := cc) (maxLocals := maxL) (ret := ret) hy ?_ ?_
  · intro args s m h hn
    obtain ⟨meth, c, h1, h2, h3, h4, h5, h6, -, -⟩ := Cond.code_spec hn (atoms_spec (ws := ws) h _ (by rw [hw]; exact List.mem_cons_self))
    exact ⟨meth, c, h1, h2, h3, h4, h5, h6⟩
  · intro p e s m args below meth c s₁ B hml hP _
    have hh0 : s₁.heap = s.heap := by rw [B.state]; rfl
    have ht : ∀ x ∈ c.exceptionTable.toList, False := by
      obtain ⟨meth9, c9, h1, h2, -, -, -, -, h7, -⟩ := Cond.code_spec B.named (atoms_spec (ws := ws) B.pre _ (by rw [hw]; exact List.mem_cons_self))
      cases Option.some.inj (h1.symm.trans B.method)
      cases Option.some.inj (h2.symm.trans (Stand.of_body B).code)
      intro x hx
      rw [Array.isEmpty_iff.mp h7] at hx
      cases hx
    obtain ⟨t, a1, o, b1, b2, b3⟩ := body p e s m args below meth c s₁ B hml ht hP s₁ hh0 (Stand.of_body B)
    exact ⟨t, o, a1, b1, b2, b3⟩
/-- the table of a body with handlers -/
theorem vx_table {p : Program} {x y : MethodName} {S : Spec} {cc bytes : ByteArray} {maxL maxL' : Nat} {ret ret' : Option FieldType} {e : Env} {s s₁ : State} {m : MethodId} {args : Array Value} {below : List Frame} {meth : Method} {c : Code} {hh : List (Nat × Nat × Nat × Nat)}
    (B : BodyLoose p l y S cc maxL ret e s m args below meth c s₁) (h : (Cond.codeWith y bytes maxL' ret' hh).before args s = true) : c.exceptionTable.toList = tableOf hh := by
  obtain ⟨m9, meth9, c9, hn9, h1, h2, -, -, h6, -⟩ := Cond.codeWith_spec h
  cases Option.some.inj (hn9.symm.trans B.named)
  cases Option.some.inj (h1.symm.trans B.method)
  cases Option.some.inj (h2.symm.trans (Stand.of_body B).code)
  rw [← h6, table_eq]
end Bodies
end VXA
/-! ===== END ===== -/
/-! ===== BEGIN a static call of a method with an exception table ===== -/
section VXS
variable {p : Program} {l : Launch} {e : Env} {R : Room} {s : State} {m : MethodId} {args : Array Value} {below : List Frame} {meth : Method} {c : Code} {T : State} {H : Heap} {locs : List Loc} {cells slots : Nat}
abbrev vx_CSW (R : Room) (s : State) (args : Array Value) (own : String) (index : Nat) (y : MethodName) (bytes : ByteArray) (maxL : Nat) (ret : Option FieldType) (hh : List (Nat × Nat × Nat × Nat)) (ws : List Cond) (rm : Room) (mc ms n : Nat) : Prop :=
  (rm.cells = mc ∧ rm.slots = ms ∧ rm.frames + 1 ≤ R.frames ∧ 8 + (maxL + 11) + rm.locals ≤ R.locals ∧ (∀ w ∈ ws, ∀ (a' : Array Value) (U : State), s.WarmedH U.vm → w.before a' U = true) ∧ Cond.codeWith y bytes maxL ret hh ∈ ws) ∧
  (Cond.codeWith y bytes maxL ret hh).before args s = true ∧ (Cond.initialized y.cls).before args s = true ∧ (y.cls ≠ "java/lang/invoke/MethodHandle" ∧ y.cls ≠ "java/lang/invoke/VarHandle") ∧
  (∀ sig, parseMethodDescriptor y.desc = some sig → n = sig.parameters.length) ∧ (Cond.methodLink own index y).before args s = true ∧ (Cond.static y).before args s = true
theorem vx_cwSW {own : String} {index maxL mc ms : Nat} {y : MethodName} {bytes : ByteArray} {ret : Option FieldType} {hh : List (Nat × Nat × Nat × Nat)} {Ts ws ws' : List Cond} {rm : Room} (n : Nat) (ht : ∀ w ∈ Ts, w.before args s = true) (hT : GoodIn Ts (va_wsS own index y ws)) (hw : ws = Cond.codeWith y bytes maxL ret hh :: ws') (hrc : rm.cells = mc) (hrs : rm.slots = ms)
    (hd : y.cls ≠ "java/lang/invoke/MethodHandle" ∧ y.cls ≠ "java/lang/invoke/VarHandle" ∧ (parseMethodDescriptor y.desc).map (fun d => d.parameters.length) = some n) (hR : rm.frames + 1 ≤ R.frames ∧ 8 + (maxL + 11) + rm.locals ≤ R.locals) :
    vx_CSW R s args own index y bytes maxL ret hh ws rm mc ms n := by
  have ok : ∀ w ∈ va_wsS own index y ws, w.before args s = true := fun w h => ht w (hT w h).1
  have hG : GoodIn Ts ws := fun w h => hT w (by unfold va_wsS; exact List.mem_append_right _ h)
  have hc : Cond.codeWith y bytes maxL ret hh ∈ ws := by rw [hw]; exact List.mem_cons_self
  refine ⟨⟨hrc, hrs, hR.1, hR.2, pay_in ht hG, hc⟩, ht _ (hG _ hc).1, ok _ (by simp [va_wsS]), ⟨hd.1, hd.2.1⟩, fun sig h => ?_, ok _ (by simp [va_wsS]), ok _ (by simp [va_wsS])⟩
  have h2 := hd.2.2
  rw [h] at h2
  exact (Option.some.inj h2).symm
theorem vx_callSW (X : Stand p l e R s m args below meth c T locs cells slots) (hexec : p.tables.exec = Jvm.exec) {own : String} {index : Nat} {y : MethodName} {bytes : ByteArray} {maxL : Nat} {ret : Option FieldType} {hh : List (Nat × Nat × Nat × Nat)}
    (hown : s.vm.findClass own = some m.cls) (hlink : (Cond.methodLink own index y).before args s = true) (hstat : (Cond.static y).before args s = true) (hinit : (Cond.initialized y.cls).before args s = true)
    (hcode : (Cond.codeWith y bytes maxL ret hh).before args s = true) (hy : y.cls ≠ "java/lang/invoke/MethodHandle" ∧ y.cls ≠ "java/lang/invoke/VarHandle")
    {W9 : Nat} {Pre : Pt → Array Value → Prop} {Post : Pt → Array Value → Option Value → Pt → Prop} (hK : Back l R p e below s args y 3 W9 Pre Post)
    {g : JFrame} (hg : g.method = m) (hsize : g.locals.size = c.maxLocals) {argsL rest : List Value} (hlen : ∀ sig, parseMethodDescriptor y.desc = some sig → argsL.length = sig.parameters.length)
    (hstack : g.stack = argsL.reverse ++ rest) (hW : 2 * g.monitorRoom + (rest.map fun v => v.category).sum ≤ W9) (hdg : decode c.code g.pc = .ok (.invokestatic index, 3))
    (hpre : ∀ vm₁, s.WarmedH vm₁ → Pre ⟨T.setVm vm₁, locs, cells, slots⟩ argsL.toArray) :
    ∃ (v : Option Value) (vm₁ : Vm) (B : Pt), s.WarmedH vm₁ ∧ Stand p l e R s m args below meth c B.U B.locs B.cells B.slots ∧ Post ⟨T.setVm vm₁, locs, cells, slots⟩ argsL.toArray v B ∧
      ∀ target, Steps p.tables e below (B.U.setTop { g with pc := g.pc + 3, stack := v.toList ++ rest }) target → Steps p.tables e below (T.setTop g) target := by
  obtain ⟨mk, methM, cM, hnamed, hmethM, -, -, -, -, -, -, hsigM⟩ := Cond.codeWith_spec hcode
  have hstatic : methM.isStatic = true := Cond.static_spec hnamed hmethM hstat
  obtain ⟨kP, hkP, -⟩ := className_of_methodNamed hnamed
  have hinitP : kP.init = .initialized := Cond.initialized_spec (findClass_of_methodNamed hnamed) hkP hinit
  obtain ⟨vm₁, X₁, hstep₁⟩ := X.invokestatic hexec hown hlink hnamed hmethM hstatic hkP hinitP hy (g := g) hg (argsL := argsL) (rest := rest) (hlen _ hsigM) hstack hdg
  obtain ⟨v, B, X', hpost, hsteps⟩ := hK m meth c ⟨T.setVm vm₁, locs, cells, slots⟩ { g with stack := rest } (.invokestatic index) mk argsL.toArray X₁ hg hsize hdg hW (X₁.named hnamed) (hpre vm₁ X₁.warmed)
  exact ⟨v, vm₁, B, X₁.warmed, X', hpost, fun target h => hstep₁ _ fun acts => by rw [doInvoke_state]; exact hsteps.trans h⟩
theorem vx_runSW {y : MethodName} {bytes cc : ByteArray} {maxL nL mc ms n index : Nat} {ret : Option FieldType} {hh : List (Nat × Nat × Nat × Nat)} {ws : List Cond} {rm : Room} {Pc : Array Value → State → Prop} {Qc : Array Value → State → Outcome → State → Prop} {free : Addr → Prop} {Ts : List Cond} {own : String} {As rest : List Value} {g : JFrame}
    (S : CallFix p m c cc nL s args Ts own) (hM : Met l y ws rm Pc Qc mc ms free) (cw : vx_CSW R s args own index y bytes maxL ret hh ws rm mc ms n) (hp : PreS s H Pc As)
    (hg : g.method = m) (hn : As.length = n) (hsize : g.locals.size = nL) (hstack : g.stack = As.reverse ++ rest) (hW : 2 * g.monitorRoom + (rest.map fun v => v.category).sum ≤ 8) (hdg : decode cc g.pc = .ok (.invokestatic index, 3)) (hf : cells + mc ≤ R.cells ∧ slots + ms ≤ R.slots) :
    va_Run p l e R s m args below meth c H locs cells slots mc ms g rest (Qc As.toArray) (free) := by
  obtain ⟨⟨hrc, hrs, hfr, hlo, hws, hcw⟩, hcode, hini, hy, hlen, hl, hstt⟩ := cw
  have hK : Back l R p e below s args y 3 8 (PreOf R mc ms Pc) (PostOf Qc mc ms free) := va_backW (hh := hh) (bytes := bytes) (maxL := maxL) (ret := ret) hM hp.1 hrc hrs hfr hlo hws hcw (fun a' U hW => word_at hW (Or.inl (by first | rfl | simp [Cond.onTables, Cond.keeps, Cond.steady])) hini)
  obtain ⟨hx, hb, hml, ho, -⟩ := S
  intro T hT X
  obtain ⟨v, vm₁, ⟨U', l2, c2, s2⟩, hW₁, X', ⟨g', mk, t, L, e1, e2, hq, h1, hL, h2, h3⟩, st⟩ := vx_callSW X hx (hh := hh) (bytes := bytes) (maxL := maxL) (ret := ret) ho hl hstt hini hcode hy hK hg (hsize.trans hml.symm) (argsL := As) (rest := rest) (fun sig h => hn.trans (hlen sig h)) hstack hW (by rw [hb]; exact hdg)
    (fun vm₁ hW₁ => ⟨hf.1, hf.2, hp.2 (T.setVm vm₁) hT hW₁⟩)
  dsimp only [Pt.U, Pt.locs, Pt.cells, Pt.slots] at X' e1 e2 h1 h2 h3 st
  subst h1; subst h2; subst h3
  exact ⟨v, (T.setVm vm₁).calling g' mk As.toArray, t, U', L, hT, X', hL, e1, e2, hq, st⟩
/-- not caught here, past rows that name other classes: it goes on to the caller -/
theorem vx_outP {p : Program} {l : Launch} {e : Env} {R : Room} {s : State} {m : MethodId} {args : Array Value} {below : List Frame} {meth : Method} {c : Code} {H : Heap} {locs : List Loc} {cells slots : Nat} {free : Addr → Prop} {ls : Array Slot} {rest : List Value} {Qc : Array Value → State → Outcome → State → Prop} {XC : String → State → State → Prop}
    {pc : Nat} {own E : String} {ce : Cell} {q : Addr} {mc ms : Nat} (hown : s.vm.findClass own = some m.cls) (hlocks : meth.locks = false)
    (hpass : ∀ z ∈ c.exceptionTable.toList, covers z pc = false ∨ (z.catchType ≠ 0 ∧ ∃ nm : String, (Cond.classLink own z.catchType nm).before args s = true ∧ va_Nc E nm s)) (hcell : H[q]? = some ce) (hv : ce.vm = .none) (hcl : s.vm.findClass E = some ce.cls)
    (hx : ∀ t : State, t.heap = H → s.vm.Alike t.vm → XC E s t) (hf : ∀ z ∈ locs, free z.base) (hc : cells ≤ mc) (hs : slots ≤ ms) :
    vx_W p l e R s m args below meth c H locs cells slots (vx_MQ below Qc XC args s mc ms free) (F0 m pc ls rest) q := by
  intro T hT X
  have hpl : e.platform.magicAccessors = ({} : Platform).magicAccessors := by rw [X.admits.platform]
  obtain ⟨vm', hW', X', st⟩ := X.outThrough hlocks q (g := F0 m pc ls rest) rfl rfl rfl (cell := ce) (by rw [hT]; exact hcell) (by rw [hv]; rfl)
    (by obtain ⟨k9, h9, -⟩ := Vm.findClass_spec hcl; exact ⟨k9, h9⟩) (fun z hz => by
      rcases hpass z hz with h | ⟨hz0, nm, hl1, hn1⟩
      · exact Or.inl h
      · obtain ⟨c6, hc6, hcl6⟩ := Cond.classLink_spec hown hl1 e.platform hpl
        obtain ⟨a8, b8, h1, h2, h3⟩ := hn1
        cases Option.some.inj (h1.symm.trans hcl)
        cases Option.some.inj (h2.symm.trans hc6)
        exact Or.inr ⟨hz0, _, hcl6, h3⟩)
  obtain ⟨g₀, hfr⟩ := X'.frames_eq
  have hcell9 : ((T.setVm vm').setFrames (.throwing q :: below)).heap[q]? = some ce := by
    show T.heap[q]? = some ce
    rw [hT]; exact hcell
  have hend : Ended ((T.setVm vm').setFrames (.throwing q :: below)) below (.threw q) := State.frames_setFrames _ (State.cur_lt_of_frames hfr)
  refine ⟨(T.setVm vm').setFrames (.throwing q :: below), ?_, .threw q, X'.here.running, hend, Or.inr ⟨q, rfl, E, ce, locs, hx _ hT (X'.ends _).1.alike, hcell9, hv, hcl, (X'.ends _).1, (X'.ends _).2.mono hc hs, hf⟩⟩
  rw [X.pushThrowing_eq]
  exact st
/-- a thing of a world lies in the heap -/
theorem vx_lt {D : va_G} {cl : List vw_C} {ws : va_W} {H1 : Heap} (h : va_P D cl ws H1) {k : Nat} {q : Nat × va_E} (hk : ws[k]? = some q) : q.1 < H1.size := (h k q hk).lt
end VXS
/-! ===== END ===== -/
/-! ===== BEGIN methods with a table of their own: called by a name, returning or throwing ===== -/
section VXH
/-! vx_backW, vx_callVX, vx_callSX, vx_callVW, vx_runVW, vx_runVX, vx_runSX, vx_ofWH follow the same proofs as their sisters above (Free/Laws.lean, Shelf42/LK1.lean); vx_outP calls Shelf42/NT130.lean (outThrough). -/
section
variable {l : Launch} {R : Room} {p : Program} {e : Env} {below : List Frame} {s : State} {sargs : Array Value} {y : MethodName} {len W9 : Nat}
theorem vx_backW {ws : List Cond} {rm : Room} {Pc : Array Value → State → Prop} {Qc : Array Value → State → Outcome → State → Prop} {XC : String → State → State → Prop} {mc ms : Nat} {free : Addr → Prop} {bytes : ByteArray} {maxL : Nat} {ret : Option FieldType} {hh : List (Nat × Nat × Nat × Nat)}
    (hM : vx_Met l y ws rm Pc Qc XC mc ms free) (hblind : FrameBlind Pc) (hrc : rm.cells = mc) (hrs : rm.slots = ms)
    (hframes : rm.frames + 1 ≤ R.frames) (hlocals : W9 + (maxL + 11) + rm.locals ≤ R.locals)
    (hws : ∀ w ∈ ws, ∀ a' U, s.WarmedH U.vm → w.before a' U = true) (hcode : Cond.codeWith y bytes maxL ret hh ∈ ws) (hinit : ∀ a' U, s.WarmedH U.vm → (Cond.initialized y.cls).before a' U = true) :
    vx_Back l R p e below s sargs y len W9 (PreOf R mc ms Pc) (PostOf Qc mc ms free) (vx_Post XC mc ms free) := by
  intro m meth c A g ig mk a X hg hsize hdg hW hn hp
  have h1 : (headSpec ws rm).pre.before a A.U = true := atoms_intro fun w hw => hws w hw _ _ X.warmed
  have h2 : (Cond.codeWith y bytes maxL ret hh).before a A.U = true := hws _ hcode _ _ X.warmed
  have h3 : (Cond.initialized y.cls).before a A.U = true := hinit _ _ X.warmed
  have h4 : A.cells + (headSpec ws rm).room.cells ≤ R.cells := by rw [show (headSpec ws rm).room.cells = mc from hrc]; exact hp.1
  have h5 : A.slots + (headSpec ws rm).room.slots ≤ R.slots := by rw [show (headSpec ws rm).room.slots = ms from hrs]; exact hp.2.1
  have hPc : Pc a (A.U.calling g mk a) := hblind _ _ _ _ hp.2.2
  obtain ⟨U, Ls, c0, s0⟩ := A
  dsimp only [Pt.U, Pt.locs, Pt.cells, Pt.slots] at h1 h2 h3 h4 h5 X hn hPc ⊢
  obtain ⟨m9, methY, cY, hn9, hmY, hcY, -, hlY, -⟩ := Cond.codeWith_spec h2
  cases Option.some.inj (hn9.symm.trans hn)
  obtain ⟨kY, hkY, -⟩ := className_of_methodNamed hn
  have hinitY : kY.init = .initialized := Cond.initialized_spec (findClass_of_methodNamed hn) hkY h3
  have h : At U g.method c below := by rw [hg]; exact X.here
  have hlocals9 : W9 + (maxL + 11) + (headSpec ws rm).room.locals ≤ R.locals := hlocals
  have happ : (headSpec ws rm).appliesLoose y e.platform (U.calling g mk a) = true :=
    Spec.appliesLoose_calling (g := g) h hdg hn hkY hinitY
      (X.room_calling (g := g) (R' := (headSpec ws rm).room) hsize hmY hcY hframes (by rw [hlY]; omega) h4 h5) h1
  obtain ⟨mid, hmid⟩ := h.above
  have hfr : (U.setTop g).frames = (.java g :: mid) ++ below := by rw [State.frames_setTop' g h.top, hmid]; rfl
  obtain ⟨o, s₂, hsteps, -, hend, hq⟩ := Steps.callFree hM p X.admits X.cas X.clock (acts := []) hfr happ hPc trivial
  have hq' : vx_Q Qc XC mc ms free a (U.calling g mk a) o s₂ := hq
  rw [State.frames_setTop' g h.top] at hend
  obtain ⟨g₀, hg0⟩ := Option.isSome_iff_exists.mp h.top
  obtain ⟨r, hr⟩ := State.topJava?_eq_some.mp hg0
  have hr' : (({ U with heap := s₂.heap, slotsUsed := s₂.slotsUsed } : State).setVm s₂.vm).frames = .java g₀ :: r := hr
  rcases hq' with ⟨hqc, L, hfe, hL⟩ | ⟨q, rfl, E, ce, L, hx, hce, hcv, hcl, hW₂, hsm, hL⟩
  · obtain ⟨⟨v, rfl⟩, hW₂, e2, q2, q3, q4, q5, q6⟩ := id hfe
    have e3 : s₂ = ({ (U.calling g mk a).setFrames s₂.frames with heap := s₂.heap, slotsUsed := s₂.slotsUsed } : State).setVm s₂.vm := by
      have : s₂ = ({ s₂ with vm := (U.calling g mk a).vm } : State).setVm s₂.vm := rfl
      rw [e2] at this
      exact this
    obtain ⟨c₂, i₂, len₂, hc₂, hd₂, hf₂⟩ := hend
    have hW' : U.WarmedH s₂.vm := hW₂
    have hcc : c₂ = c := by
      have h1 : s₂.code? g.method = U.code? g.method := by
        rw [State.code?_eq, State.code?_eq, hW'.alike.method?]
      exact Option.some.inj (hc₂.symm.trans (h1.trans h.code))
    subst hcc
    have hlen : len₂ = len := by rw [hdg] at hd₂; cases hd₂; rfl
    subst hlen
    have hs₂ : s₂ = (({ U with heap := s₂.heap, slotsUsed := s₂.slotsUsed } : State).setVm s₂.vm).setTop { g with pc := g.pc + len₂, stack := v.toList ++ g.stack } := by
      refine e3.trans ?_
      rw [hf₂, State.calling_eq h.top, State.setFrames_setFrames, State.setTop_of_frames _ hr', hr]
      rfl
    have hsame : U.sameButNew ({ U with heap := s₂.heap, slotsUsed := s₂.slotsUsed } : State) L mc ms := by
      refine ⟨?_, q2, q3, q4, q5, q6⟩
      obtain ⟨t, ht, -⟩ := State.frames_cons hr
      show ({ U with heap := s₂.heap, slotsUsed := s₂.slotsUsed } : State) = { U.setFrames U.frames with heap := s₂.heap, slotsUsed := s₂.slotsUsed }
      rw [State.setFrames_self ht]
    subst hg
    refine Or.inl ⟨v, ⟨(({ U with heap := s₂.heap, slotsUsed := s₂.slotsUsed } : State).setVm s₂.vm), Ls ++ L, c0 + mc, s0 + ms⟩,
      ⟨X.admits, X.cas, X.clock, X.frames, X.room, X.hears, X.method, X.code, (X.here.setHeapUsed s₂.heap s₂.slotsUsed).setVm hW'.alike, X.tail, State.WarmedH.trans X.warmed hW', X.limits, X.bytes, X.same.trans (hsame.setVm s.vm)⟩,
      ⟨g, mk, s₂, L, rfl, rfl, hqc, rfl, hL, rfl, rfl⟩, ?_⟩
    show Steps p.tables e below _ ((({ U with heap := s₂.heap, slotsUsed := s₂.slotsUsed } : State).setVm s₂.vm).setTop { g with pc := g.pc + len₂, stack := v.toList ++ g.stack })
    rw [← hs₂]
    exact hsteps
  · obtain ⟨e2, q2, q3, q4, q5, q6⟩ := id hsm
    have e3 : s₂ = ({ (U.calling g mk a).setFrames s₂.frames with heap := s₂.heap, slotsUsed := s₂.slotsUsed } : State).setVm s₂.vm := by
      have : s₂ = ({ s₂ with vm := (U.calling g mk a).vm } : State).setVm s₂.vm := rfl
      rw [e2] at this
      exact this
    have hf₂ : s₂.frames = .throwing q :: .java g :: U.frames.tail := hend
    have hW' : U.WarmedH s₂.vm := hW₂
    have hs₂ : s₂ = ((({ U with heap := s₂.heap, slotsUsed := s₂.slotsUsed } : State).setVm s₂.vm).setTop g).pushFrame (.throwing q) := by
      refine e3.trans ?_
      rw [hf₂, State.calling_eq h.top, State.setFrames_setFrames, State.pushFrame, State.frames_setTop _ hr', State.setTop_of_frames _ hr', State.setFrames_setFrames, hr]
      rfl
    have hsame : U.sameButNew ({ U with heap := s₂.heap, slotsUsed := s₂.slotsUsed } : State) L mc ms := by
      refine ⟨?_, q2, q3, q4, q5, q6⟩
      obtain ⟨t, ht, -⟩ := State.frames_cons hr
      show ({ U with heap := s₂.heap, slotsUsed := s₂.slotsUsed } : State) = { U.setFrames U.frames with heap := s₂.heap, slotsUsed := s₂.slotsUsed }
      rw [State.setFrames_self ht]
    subst hg
    refine Or.inr ⟨q, ⟨(({ U with heap := s₂.heap, slotsUsed := s₂.slotsUsed } : State).setVm s₂.vm), Ls ++ L, c0 + mc, s0 + ms⟩,
      ⟨X.admits, X.cas, X.clock, X.frames, X.room, X.hears, X.method, X.code, (X.here.setHeapUsed s₂.heap s₂.slotsUsed).setVm hW'.alike, X.tail, State.WarmedH.trans X.warmed hW', X.limits, X.bytes, X.same.trans (hsame.setVm s.vm)⟩,
      ⟨g, mk, s₂, L, E, ce, rfl, rfl, hx, hce, hcv, hcl, rfl, hL, rfl, rfl⟩, ?_⟩
    show Steps p.tables e below _ (((({ U with heap := s₂.heap, slotsUsed := s₂.slotsUsed } : State).setVm s₂.vm).setTop g).pushFrame (.throwing q))
    rw [← hs₂]
    exact hsteps
end
variable {p : Program} {l : Launch} {e : Env} {R : Room} {s : State} {m : MethodId} {args : Array Value} {below : List Frame} {meth : Method} {c : Code} {T : State} {H : Heap} {locs : List Loc} {cells slots : Nat}
theorem vx_callVX (X : Stand p l e R s m args below meth c T locs cells slots) (hexec : p.tables.exec = Jvm.exec) {own C : String} {index : Nat} {y : MethodName} {bytes : ByteArray} {maxL : Nat} {ret : Option FieldType} {hh : List (Nat × Nat × Nat × Nat)}
    (hown : s.vm.findClass own = some m.cls) (hlink : (Cond.methodLink own index y).before args s = true) (hinst : (Cond.instanceMethod y).before args s = true) (hsel : (Cond.selects C y y).before args s = true)
    (hcode : (Cond.codeWith y bytes maxL ret hh).before args s = true) (hy : y.cls ≠ "java/lang/invoke/MethodHandle" ∧ y.cls ≠ "java/lang/invoke/VarHandle")
    {W9 : Nat} {Pre : Pt → Array Value → Prop} {Post : Pt → Array Value → Option Value → Pt → Prop} {PostX : Pt → Array Value → Addr → Pt → Prop} (hK : vx_Back l R p e below s args y 3 W9 Pre Post PostX)
    {b : Addr} {cellB : Cell} (hcell : T.heap[b]? = some cellB) (hobj : cellB.vm.isStatics = false) (hcls : s.vm.findClass C = some cellB.cls)
    {g : JFrame} (hg : g.method = m) (hsize : g.locals.size = c.maxLocals) {argsL rest : List Value} (hlen : ∀ sig, parseMethodDescriptor y.desc = some sig → argsL.length = sig.parameters.length)
    (hstack : g.stack = argsL.reverse ++ .ref b :: rest) (hW : 2 * g.monitorRoom + (rest.map fun v => v.category).sum ≤ W9) (hdg : decode c.code g.pc = .ok (.invokevirtual index, 3))
    (hpre : ∀ vm₁, s.WarmedH vm₁ → Pre ⟨T.setVm vm₁, locs, cells, slots⟩ (Value.ref b :: argsL).toArray) :
    (∃ (v : Option Value) (vm₁ : Vm) (B : Pt), s.WarmedH vm₁ ∧ Stand p l e R s m args below meth c B.U B.locs B.cells B.slots ∧ Post ⟨T.setVm vm₁, locs, cells, slots⟩ (Value.ref b :: argsL).toArray v B ∧
      ∀ target, Steps p.tables e below (B.U.setTop { g with pc := g.pc + 3, stack := v.toList ++ rest }) target → Steps p.tables e below (T.setTop g) target) ∨
    (∃ (q : Addr) (vm₁ : Vm) (B : Pt), s.WarmedH vm₁ ∧ Stand p l e R s m args below meth c B.U B.locs B.cells B.slots ∧ PostX ⟨T.setVm vm₁, locs, cells, slots⟩ (Value.ref b :: argsL).toArray q B ∧
      Steps p.tables e below (T.setTop g) ((B.U.setTop { g with stack := rest }).pushFrame (.throwing q))) := by
  obtain ⟨mk, methM, hnamed, hmethM, hstM, habM⟩ := Cond.instanceMethod_spec hinst
  obtain ⟨m8, methM', cM, hn8, hmethM', -, -, -, -, -, -, hsigM⟩ := Cond.codeWith_spec hcode
  cases Option.some.inj (hn8.symm.trans hnamed)
  cases hmethM.symm.trans hmethM'
  obtain ⟨c2, r2, m2, q1, q2, q3, q4, kP, hkP, hkPi⟩ := Cond.selects_spec hsel
  cases hcls.symm.trans q1
  cases (State.methodFound?_of_named hnamed hy).symm.trans q2
  cases hnamed.symm.trans q3
  have hselP : selectMethod e.platform s.vm cellB.cls mk = .method mk := by rw [Launch.admits_selectMethod X.admits]; exact q4
  obtain ⟨vm₁, X₁, hstep₁⟩ := X.invokevirtual hexec hown hlink hnamed hmethM hstM hkP hkPi hy (a := b) (cell := cellB) hcell
    (fun z h => by rw [h] at hobj; cases hobj) hselP hmethM habM hkP hkPi (g := g) hg (argsL := argsL) (rest := rest) (hlen _ hsigM) hstack hdg
  rcases hK m meth c ⟨T.setVm vm₁, locs, cells, slots⟩ { g with stack := rest } (.invokevirtual index) mk (Value.ref b :: argsL).toArray X₁ hg hsize hdg hW (X₁.named hnamed) (hpre vm₁ X₁.warmed) with ⟨v, B, X', hpost, hsteps⟩ | ⟨q, B, X', hpost, hsteps⟩
  · exact Or.inl ⟨v, vm₁, B, X₁.warmed, X', hpost, fun target h => hstep₁ _ fun acts => by rw [doInvoke_state]; exact hsteps.trans h⟩
  · exact Or.inr ⟨q, vm₁, B, X₁.warmed, X', hpost, hstep₁ _ fun acts => by rw [doInvoke_state]; exact hsteps⟩
theorem vx_callSX (X : Stand p l e R s m args below meth c T locs cells slots) (hexec : p.tables.exec = Jvm.exec) {own : String} {index : Nat} {y : MethodName} {bytes : ByteArray} {maxL : Nat} {ret : Option FieldType} {hh : List (Nat × Nat × Nat × Nat)}
    (hown : s.vm.findClass own = some m.cls) (hlink : (Cond.methodLink own index y).before args s = true) (hstat : (Cond.static y).before args s = true) (hinit : (Cond.initialized y.cls).before args s = true)
    (hcode : (Cond.codeWith y bytes maxL ret hh).before args s = true) (hy : y.cls ≠ "java/lang/invoke/MethodHandle" ∧ y.cls ≠ "java/lang/invoke/VarHandle")
    {W9 : Nat} {Pre : Pt → Array Value → Prop} {Post : Pt → Array Value → Option Value → Pt → Prop} {PostX : Pt → Array Value → Addr → Pt → Prop} (hK : vx_Back l R p e below s args y 3 W9 Pre Post PostX)
    {g : JFrame} (hg : g.method = m) (hsize : g.locals.size = c.maxLocals) {argsL rest : List Value} (hlen : ∀ sig, parseMethodDescriptor y.desc = some sig → argsL.length = sig.parameters.length)
    (hstack : g.stack = argsL.reverse ++ rest) (hW : 2 * g.monitorRoom + (rest.map fun v => v.category).sum ≤ W9) (hdg : decode c.code g.pc = .ok (.invokestatic index, 3))
    (hpre : ∀ vm₁, s.WarmedH vm₁ → Pre ⟨T.setVm vm₁, locs, cells, slots⟩ argsL.toArray) :
    (∃ (v : Option Value) (vm₁ : Vm) (B : Pt), s.WarmedH vm₁ ∧ Stand p l e R s m args below meth c B.U B.locs B.cells B.slots ∧ Post ⟨T.setVm vm₁, locs, cells, slots⟩ argsL.toArray v B ∧
      ∀ target, Steps p.tables e below (B.U.setTop { g with pc := g.pc + 3, stack := v.toList ++ rest }) target → Steps p.tables e below (T.setTop g) target) ∨
    (∃ (q : Addr) (vm₁ : Vm) (B : Pt), s.WarmedH vm₁ ∧ Stand p l e R s m args below meth c B.U B.locs B.cells B.slots ∧ PostX ⟨T.setVm vm₁, locs, cells, slots⟩ argsL.toArray q B ∧
      Steps p.tables e below (T.setTop g) ((B.U.setTop { g with stack := rest }).pushFrame (.throwing q))) := by
  obtain ⟨mk, methM, cM, hnamed, hmethM, -, -, -, -, -, -, hsigM⟩ := Cond.codeWith_spec hcode
  have hstatic : methM.isStatic = true := Cond.static_spec hnamed hmethM hstat
  obtain ⟨kP, hkP, -⟩ := className_of_methodNamed hnamed
  have hinitP : kP.init = .initialized := Cond.initialized_spec (findClass_of_methodNamed hnamed) hkP hinit
  obtain ⟨vm₁, X₁, hstep₁⟩ := X.invokestatic hexec hown hlink hnamed hmethM hstatic hkP hinitP hy (g := g) hg (argsL := argsL) (rest := rest) (hlen _ hsigM) hstack hdg
  rcases hK m meth c ⟨T.setVm vm₁, locs, cells, slots⟩ { g with stack := rest } (.invokestatic index) mk argsL.toArray X₁ hg hsize hdg hW (X₁.named hnamed) (hpre vm₁ X₁.warmed) with ⟨v, B, X', hpost, hsteps⟩ | ⟨q, B, X', hpost, hsteps⟩
  · exact Or.inl ⟨v, vm₁, B, X₁.warmed, X', hpost, fun target h => hstep₁ _ fun acts => by rw [doInvoke_state]; exact hsteps.trans h⟩
  · exact Or.inr ⟨q, vm₁, B, X₁.warmed, X', hpost, hstep₁ _ fun acts => by rw [doInvoke_state]; exact hsteps⟩
theorem vx_callVW (X : Stand p l e R s m args below meth c T locs cells slots) (hexec : p.tables.exec = Jvm.exec) {own C : String} {index : Nat} {y : MethodName} {bytes : ByteArray} {maxL : Nat} {ret : Option FieldType} {hh : List (Nat × Nat × Nat × Nat)}
    (hown : s.vm.findClass own = some m.cls) (hlink : (Cond.methodLink own index y).before args s = true) (hinst : (Cond.instanceMethod y).before args s = true) (hsel : (Cond.selects C y y).before args s = true)
    (hcode : (Cond.codeWith y bytes maxL ret hh).before args s = true) (hy : y.cls ≠ "java/lang/invoke/MethodHandle" ∧ y.cls ≠ "java/lang/invoke/VarHandle")
    {W9 : Nat} {Pre : Pt → Array Value → Prop} {Post : Pt → Array Value → Option Value → Pt → Prop} (hK : Back l R p e below s args y 3 W9 Pre Post)
    {b : Addr} {cellB : Cell} (hcell : T.heap[b]? = some cellB) (hobj : cellB.vm.isStatics = false) (hcls : s.vm.findClass C = some cellB.cls)
    {g : JFrame} (hg : g.method = m) (hsize : g.locals.size = c.maxLocals) {argsL rest : List Value} (hlen : ∀ sig, parseMethodDescriptor y.desc = some sig → argsL.length = sig.parameters.length)
    (hstack : g.stack = argsL.reverse ++ .ref b :: rest) (hW : 2 * g.monitorRoom + (rest.map fun v => v.category).sum ≤ W9) (hdg : decode c.code g.pc = .ok (.invokevirtual index, 3))
    (hpre : ∀ vm₁, s.WarmedH vm₁ → Pre ⟨T.setVm vm₁, locs, cells, slots⟩ (Value.ref b :: argsL).toArray) :
    ∃ (v : Option Value) (vm₁ : Vm) (B : Pt), s.WarmedH vm₁ ∧ Stand p l e R s m args below meth c B.U B.locs B.cells B.slots ∧ Post ⟨T.setVm vm₁, locs, cells, slots⟩ (Value.ref b :: argsL).toArray v B ∧
      ∀ target, Steps p.tables e below (B.U.setTop { g with pc := g.pc + 3, stack := v.toList ++ rest }) target → Steps p.tables e below (T.setTop g) target := by
  obtain ⟨mk, methM, hnamed, hmethM, hstM, habM⟩ := Cond.instanceMethod_spec hinst
  obtain ⟨m8, methM', cM, hn8, hmethM', -, -, -, -, -, -, hsigM⟩ := Cond.codeWith_spec hcode
  cases Option.some.inj (hn8.symm.trans hnamed)
  cases hmethM.symm.trans hmethM'
  obtain ⟨c2, r2, m2, q1, q2, q3, q4, kP, hkP, hkPi⟩ := Cond.selects_spec hsel
  cases hcls.symm.trans q1
  cases (State.methodFound?_of_named hnamed hy).symm.trans q2
  cases hnamed.symm.trans q3
  have hselP : selectMethod e.platform s.vm cellB.cls mk = .method mk := by rw [Launch.admits_selectMethod X.admits]; exact q4
  obtain ⟨vm₁, X₁, hstep₁⟩ := X.invokevirtual hexec hown hlink hnamed hmethM hstM hkP hkPi hy (a := b) (cell := cellB) hcell
    (fun z h => by rw [h] at hobj; cases hobj) hselP hmethM habM hkP hkPi (g := g) hg (argsL := argsL) (rest := rest) (hlen _ hsigM) hstack hdg
  obtain ⟨v, B, X', hpost, hsteps⟩ := hK m meth c ⟨T.setVm vm₁, locs, cells, slots⟩ { g with stack := rest } (.invokevirtual index) mk (Value.ref b :: argsL).toArray X₁ hg hsize hdg hW (X₁.named hnamed) (hpre vm₁ X₁.warmed)
  exact ⟨v, vm₁, B, X₁.warmed, X', hpost, fun target h => hstep₁ _ fun acts => by rw [doInvoke_state]; exact hsteps.trans h⟩
abbrev vx_CVW (R : Room) (s : State) (args : Array Value) (own C : String) (index : Nat) (y : MethodName) (bytes : ByteArray) (maxL : Nat) (ret : Option FieldType) (hh : List (Nat × Nat × Nat × Nat)) (ws : List Cond) (rm : Room) (mc ms n : Nat) : Prop :=
  (rm.cells = mc ∧ rm.slots = ms ∧ rm.frames + 1 ≤ R.frames ∧ 8 + (maxL + 11) + rm.locals ≤ R.locals ∧ (∀ w ∈ ws, ∀ (a' : Array Value) (U : State), s.WarmedH U.vm → w.before a' U = true) ∧ Cond.codeWith y bytes maxL ret hh ∈ ws) ∧
  (Cond.codeWith y bytes maxL ret hh).before args s = true ∧ (Cond.initialized y.cls).before args s = true ∧ (y.cls ≠ "java/lang/invoke/MethodHandle" ∧ y.cls ≠ "java/lang/invoke/VarHandle") ∧
  (∀ sig, parseMethodDescriptor y.desc = some sig → n = sig.parameters.length) ∧ (Cond.methodLink own index y).before args s = true ∧ (Cond.instanceMethod y).before args s = true ∧ (Cond.selects C y y).before args s = true
theorem vx_cwVW {own C : String} {index maxL mc ms : Nat} {y : MethodName} {bytes : ByteArray} {ret : Option FieldType} {hh : List (Nat × Nat × Nat × Nat)} {Ts ws ws' : List Cond} {rm : Room} (n : Nat) (ht : ∀ w ∈ Ts, w.before args s = true) (hT : GoodIn Ts (wsV own index C y ws)) (hw : ws = Cond.codeWith y bytes maxL ret hh :: ws') (hrc : rm.cells = mc) (hrs : rm.slots = ms)
    (hd : y.cls = C ∧ y.cls ≠ "java/lang/invoke/MethodHandle" ∧ y.cls ≠ "java/lang/invoke/VarHandle" ∧ (parseMethodDescriptor y.desc).map (fun d => d.parameters.length) = some n) (hR : rm.frames + 1 ≤ R.frames ∧ 8 + (maxL + 11) + rm.locals ≤ R.locals) :
    vx_CVW R s args own C index y bytes maxL ret hh ws rm mc ms n := by
  obtain ⟨hC, hd⟩ := hd
  subst hC
  have ok : ∀ w ∈ wsV own index y.cls y ws, w.before args s = true := fun w h => ht w (hT w h).1
  have hG : GoodIn Ts ws := fun w h => hT w (by unfold wsV; exact List.mem_append_right _ h)
  have hc : Cond.codeWith y bytes maxL ret hh ∈ ws := by rw [hw]; exact List.mem_cons_self
  refine ⟨⟨hrc, hrs, hR.1, hR.2, pay_in ht hG, hc⟩, ht _ (hG _ hc).1, ok _ (by simp [wsV]), ⟨hd.1, hd.2.1⟩, fun sig h => ?_, ok _ (by simp [wsV]), ok _ (by simp [wsV]), ok _ (by simp [wsV])⟩
  have h2 := hd.2.2
  rw [h] at h2
  exact (Option.some.inj h2).symm
theorem vx_runVW {y : MethodName} {bytes cc : ByteArray} {maxL nL mc ms n index : Nat} {ret : Option FieldType} {hh : List (Nat × Nat × Nat × Nat)} {ws : List Cond} {rm : Room} {Pc : Array Value → State → Prop} {Qc : Array Value → State → Outcome → State → Prop} {free : Addr → Prop} {Ts : List Cond} {own C : String} {b : Addr} {As rest : List Value} {g : JFrame}
    (S : CallFix p m c cc nL s args Ts own) (hM : Met l y ws rm Pc Qc mc ms free) (cw : vx_CVW R s args own C index y bytes maxL ret hh ws rm mc ms n) (hp : PreV s H C b Pc As)
    (hg : g.method = m) (hn : As.length = n) (hsize : g.locals.size = nL) (hstack : g.stack = As.reverse ++ .ref b :: rest) (hW : 2 * g.monitorRoom + (rest.map fun v => v.category).sum ≤ 8) (hdg : decode cc g.pc = .ok (.invokevirtual index, 3)) (hf : cells + mc ≤ R.cells ∧ slots + ms ≤ R.slots) :
    va_Run p l e R s m args below meth c H locs cells slots mc ms g rest (Qc (Value.ref b :: As).toArray) free := by
  obtain ⟨⟨hrc, hrs, hfr, hlo, hws, hcw⟩, hcode, hini, hy, hlen, hl, hin, hse⟩ := cw
  have hK : Back l R p e below s args y 3 8 (PreOf R mc ms Pc) (PostOf Qc mc ms free) := va_backW (hh := hh) (bytes := bytes) (maxL := maxL) (ret := ret) hM hp.1 hrc hrs hfr hlo hws hcw (fun a' U hW => word_at hW (Or.inl (by first | rfl | simp [Cond.onTables, Cond.keeps, Cond.steady])) hini)
  obtain ⟨hx, hb, hml, ho, -⟩ := S
  obtain ⟨-, ⟨cellB, hcB, hoB, hclB⟩, hPc⟩ := hp
  intro T hT X
  obtain ⟨v, vm₁, ⟨U', l2, c2, s2⟩, hW₁, X', ⟨g', mk, t, L, e1, e2, hq, h1, hL, h2, h3⟩, st⟩ := vx_callVW X hx (C := C) (hh := hh) (bytes := bytes) (maxL := maxL) (ret := ret) ho hl hin hse hcode hy hK (by rw [hT]; exact hcB) hoB hclB hg (hsize.trans hml.symm) (argsL := As) (rest := rest) (fun sig h => hn.trans (hlen sig h)) hstack hW (by rw [hb]; exact hdg)
    (fun vm₁ hW₁ => ⟨hf.1, hf.2, hPc (T.setVm vm₁) hT hW₁⟩)
  dsimp only [Pt.U, Pt.locs, Pt.cells, Pt.slots] at X' e1 e2 h1 h2 h3 st
  subst h1; subst h2; subst h3
  exact ⟨v, (T.setVm vm₁).calling g' mk (Value.ref b :: As).toArray, t, U', L, hT, X', hL, e1, e2, hq, st⟩
section
variable {y : MethodName} {bytes cc : ByteArray} {maxL nL mc ms n index : Nat} {ret : Option FieldType} {ws : List Cond} {rm : Room} {Pc : Array Value → State → Prop} {Qc : Array Value → State → Outcome → State → Prop} {XC : String → State → State → Prop} {free : Addr → Prop} {Ts : List Cond} {own C : String} {b : Addr} {As rest : List Value} {g : JFrame}
theorem vx_runVX {hh : List (Nat × Nat × Nat × Nat)} (S : CallFix p m c cc nL s args Ts own) (hM : vx_Met l y ws rm Pc Qc XC mc ms free) (cw : vx_CVW R s args own C index y bytes maxL ret hh ws rm mc ms n) (hp : PreV s H C b Pc As)
    (hg : g.method = m) (hn : As.length = n) (hsize : g.locals.size = nL) (hstack : g.stack = As.reverse ++ .ref b :: rest) (hW : 2 * g.monitorRoom + (rest.map fun v => v.category).sum ≤ 8) (hdg : decode cc g.pc = .ok (.invokevirtual index, 3)) (hf : cells + mc ≤ R.cells ∧ slots + ms ≤ R.slots) :
    vx_Run p l e R s m args below meth c H locs cells slots mc ms g rest (Qc (Value.ref b :: As).toArray) XC free := by
  obtain ⟨⟨hrc, hrs, hfr, hlo, hws, hcw⟩, hcode, hini, hy, hlen, hl, hin, hse⟩ := cw
  have hK : vx_Back l R p e below s args y 3 8 (PreOf R mc ms Pc) (PostOf Qc mc ms free) (vx_Post XC mc ms free) := vx_backW (hh := hh) (bytes := bytes) (maxL := maxL) (ret := ret) hM hp.1 hrc hrs hfr hlo hws hcw (fun a' U hW => word_at hW (Or.inl (by first | rfl | simp [Cond.onTables, Cond.keeps, Cond.steady])) hini)
  obtain ⟨hx, hb, hml, ho, -⟩ := S
  obtain ⟨-, ⟨cellB, hcB, hoB, hclB⟩, hPc⟩ := hp
  intro T hT X
  rcases vx_callVX X hx (C := C) (hh := hh) (bytes := bytes) (maxL := maxL) (ret := ret) ho hl hin hse hcode hy hK (by rw [hT]; exact hcB) hoB hclB hg (hsize.trans hml.symm) (argsL := As) (rest := rest) (fun sig h => hn.trans (hlen sig h)) hstack hW (by rw [hb]; exact hdg)
    (fun vm₁ hW₁ => ⟨hf.1, hf.2, hPc (T.setVm vm₁) hT hW₁⟩) with ⟨v, vm₁, ⟨U', l2, c2, s2⟩, hW₁, X', ⟨g', mk, t, L, e1, e2, hq, h1, hL, h2, h3⟩, st⟩ | ⟨q, vm₁, ⟨U', l2, c2, s2⟩, hW₁, X', ⟨g', mk, t, L, E, ce, e1, e2, hq, hce, hcv, hcl, h1, hL, h2, h3⟩, st⟩
  · dsimp only [Pt.U, Pt.locs, Pt.cells, Pt.slots] at X' e1 e2 h1 h2 h3 st
    subst h1; subst h2; subst h3
    exact Or.inl ⟨v, (T.setVm vm₁).calling g' mk (Value.ref b :: As).toArray, t, U', L, hT, X', hL, e1, e2, hq, st⟩
  · dsimp only [Pt.U, Pt.locs, Pt.cells, Pt.slots] at X' e1 e2 h1 h2 h3 st hcl
    subst h1; subst h2; subst h3
    exact Or.inr ⟨q, (T.setVm vm₁).calling g' mk (Value.ref b :: As).toArray, t, U', L, E, ce, hT, X', hL, e1, e2, hq, hce, hcv, vx_cls hW₁ hcl, st⟩
theorem vx_runSX {hh : List (Nat × Nat × Nat × Nat)} (S : CallFix p m c cc nL s args Ts own) (hM : vx_Met l y ws rm Pc Qc XC mc ms free) (cw : vx_CSW R s args own index y bytes maxL ret hh ws rm mc ms n) (hp : PreS s H Pc As)
    (hg : g.method = m) (hn : As.length = n) (hsize : g.locals.size = nL) (hstack : g.stack = As.reverse ++ rest) (hW : 2 * g.monitorRoom + (rest.map fun v => v.category).sum ≤ 8) (hdg : decode cc g.pc = .ok (.invokestatic index, 3)) (hf : cells + mc ≤ R.cells ∧ slots + ms ≤ R.slots) :
    vx_Run p l e R s m args below meth c H locs cells slots mc ms g rest (Qc As.toArray) XC free := by
  obtain ⟨⟨hrc, hrs, hfr, hlo, hws, hcw⟩, hcode, hini, hy, hlen, hl, hstt⟩ := cw
  have hK : vx_Back l R p e below s args y 3 8 (PreOf R mc ms Pc) (PostOf Qc mc ms free) (vx_Post XC mc ms free) := vx_backW (hh := hh) (bytes := bytes) (maxL := maxL) (ret := ret) hM hp.1 hrc hrs hfr hlo hws hcw (fun a' U hW => word_at hW (Or.inl (by first | rfl | simp [Cond.onTables, Cond.keeps, Cond.steady])) hini)
  obtain ⟨hx, hb, hml, ho, -⟩ := S
  intro T hT X
  rcases vx_callSX X hx (hh := hh) (bytes := bytes) (maxL := maxL) (ret := ret) ho hl hstt hini hcode hy hK hg (hsize.trans hml.symm) (argsL := As) (rest := rest) (fun sig h => hn.trans (hlen sig h)) hstack hW (by rw [hb]; exact hdg)
    (fun vm₁ hW₁ => ⟨hf.1, hf.2, hp.2 (T.setVm vm₁) hT hW₁⟩) with ⟨v, vm₁, ⟨U', l2, c2, s2⟩, hW₁, X', ⟨g', mk, t, L, e1, e2, hq, h1, hL, h2, h3⟩, st⟩ | ⟨q, vm₁, ⟨U', l2, c2, s2⟩, hW₁, X', ⟨g', mk, t, L, E, ce, e1, e2, hq, hce, hcv, hcl, h1, hL, h2, h3⟩, st⟩
  · dsimp only [Pt.U, Pt.locs, Pt.cells, Pt.slots] at X' e1 e2 h1 h2 h3 st
    subst h1; subst h2; subst h3
    exact Or.inl ⟨v, (T.setVm vm₁).calling g' mk As.toArray, t, U', L, hT, X', hL, e1, e2, hq, st⟩
  · dsimp only [Pt.U, Pt.locs, Pt.cells, Pt.slots] at X' e1 e2 h1 h2 h3 st hcl
    subst h1; subst h2; subst h3
    exact Or.inr ⟨q, (T.setVm vm₁).calling g' mk As.toArray, t, U', L, E, ce, hT, X', hL, e1, e2, hq, hce, hcv, vx_cls hW₁ hcl, st⟩
end
end VXH
theorem vx_ofWH {l : Launch} {y : MethodName} {ws ws' : List Cond} {rm : Room} {Pc : Array Value → State → Prop} {Qc : Array Value → State → Outcome → State → Prop} {XC : String → State → State → Prop} {mc ms : Nat} {free : Addr → Prop} {cc : ByteArray} {maxL : Nat} {ret : Option FieldType} {hh : List (Nat × Nat × Nat × Nat)}
    (hy : plainName y.cls = true) (hw : ws = Cond.codeWith y cc maxL ret hh :: ws')
    (body : ∀ p e s m args below meth c s₁, BodyLoose p l y (headSpec ws rm) cc maxL ret e s m args below meth c s₁ → c.maxLocals = maxL → Pc args s →
      W p l e (headSpec ws rm).room s m args below meth c s.heap [] 0 0 (vx_MQ below Qc XC args s mc ms free) (entryFrame m args maxL)) : vx_Met l y ws rm Pc Qc XC mc ms free := by
  refine MetFree.of_bodyS (code := cc) (maxLocals := maxL) (ret := ret) hy ?_ ?_
  · intro args s m h hn
    obtain ⟨m9, meth, c, hn9, h1, h2, h3, h4, -, h5, h6, -⟩ := Cond.codeWith_spec (atoms_spec (ws := ws) h _ (by rw [hw]; exact List.mem_cons_self))
    cases hn.symm.trans hn9
    exact ⟨meth, c, h1, h2, h3, h4, h5, h6⟩
  · intro p e s m args below meth c s₁ B hml hP _
    have hh0 : s₁.heap = s.heap := by rw [B.state]; rfl
    obtain ⟨t, a1, o, b1, b2, b3⟩ := body p e s m args below meth c s₁ B hml hP s₁ hh0 (Stand.of_body B)
    exact ⟨t, o, a1, b1, b2, b3⟩
/-! ===== END ===== -/
/-! ===== BEGIN a constructor that throws (launches without stack traces) ===== -/
section VXIA
variable {p : Program} {l : Launch} {e : Env} {R : Room} {s : State} {m : MethodId} {args : Array Value} {below : List Frame} {meth : Method} {c : Code} {T : State} {locs : List Loc} {cells slots : Nat}
theorem vx_callI (X : Stand p l e R s m args below meth c T locs cells slots) (hexec : p.tables.exec = Jvm.exec) {own : String} {index : Nat} {y : MethodName} {bytes : ByteArray} {maxL : Nat}
    (hown : s.vm.findClass own = some m.cls) (hy1 : y.name = "<init>") (hlink : (Cond.methodLink own index y).before args s = true) (hinst : (Cond.instanceMethod y).before args s = true)
    (hcode : (Cond.code y bytes maxL none).before args s = true) (hy : y.cls ≠ "java/lang/invoke/MethodHandle" ∧ y.cls ≠ "java/lang/invoke/VarHandle")
    {W9 : Nat} {Pre : Pt → Array Value → Prop} {Post : Pt → Array Value → Option Value → Pt → Prop} {PostX : Pt → Array Value → Addr → Pt → Prop} (hK : vx_Back l R p e below s args y 3 W9 Pre Post PostX)
    {g : JFrame} (hg : g.method = m) (hsize : g.locals.size = c.maxLocals) {a : Addr} {argsL rest : List Value} (hlen : ∀ sig, parseMethodDescriptor y.desc = some sig → argsL.length = sig.parameters.length)
    (hstack : g.stack = argsL.reverse ++ .ref a :: rest) (hW : 2 * g.monitorRoom + (rest.map fun v => v.category).sum ≤ W9) (hdg : decode c.code g.pc = .ok (.invokespecial index, 3))
    (hpre : ∀ vm₁, s.WarmedH vm₁ → Pre ⟨T.setVm vm₁, locs, cells, slots⟩ (Value.ref a :: argsL).toArray) :
    (∃ (v : Option Value) (vm₁ : Vm) (B : Pt), s.WarmedH vm₁ ∧ Stand p l e R s m args below meth c B.U B.locs B.cells B.slots ∧ Post ⟨T.setVm vm₁, locs, cells, slots⟩ (Value.ref a :: argsL).toArray v B ∧
      ∀ target, Steps p.tables e below (B.U.setTop { g with pc := g.pc + 3, stack := v.toList ++ rest }) target → Steps p.tables e below (T.setTop g) target) ∨
    (∃ (q : Addr) (vm₁ : Vm) (B : Pt), s.WarmedH vm₁ ∧ Stand p l e R s m args below meth c B.U B.locs B.cells B.slots ∧ PostX ⟨T.setVm vm₁, locs, cells, slots⟩ (Value.ref a :: argsL).toArray q B ∧
      Steps p.tables e below (T.setTop g) ((B.U.setTop { g with stack := rest }).pushFrame (.throwing q))) := by
  subst hg
  have hpl : e.platform.magicAccessors = ({} : Platform).magicAccessors := by rw [X.admits.platform]
  obtain ⟨mk, methM, cM, kP, vm₁, hnamed, hmethM, hcodeM, -, hlocalsM, -, hkP, -, hW₁, hstep₁⟩ := Steps.initColdArgs (e := e) X.here hexec X.warmed hpl hown hy1 hy hlink hinst hcode (f := g) rfl hlen hstack hdg
  have X₁ := X.noted hW₁
  rcases hK g.method meth c ⟨T.setVm vm₁, locs, cells, slots⟩ { g with stack := rest } (.invokespecial index) mk (Value.ref a :: argsL).toArray X₁ rfl hsize hdg hW (X₁.named hnamed) (hpre vm₁ X₁.warmed) with ⟨v, B, X', hpost, hsteps⟩ | ⟨q, B, X', hpost, hsteps⟩
  · exact Or.inl ⟨v, vm₁, B, X₁.warmed, X', hpost, fun target h => hstep₁ _ fun acts => by rw [doInvoke_state]; exact hsteps.trans h⟩
  · exact Or.inr ⟨q, vm₁, B, X₁.warmed, X', hpost, hstep₁ _ fun acts => by rw [doInvoke_state]; exact hsteps⟩
end VXIA
section VXIB
variable {p : Program} {l : Launch} {e : Env} {R : Room} {s : State} {m : MethodId} {args : Array Value} {below : List Frame} {meth : Method} {c : Code} {H : Heap} {locs : List Loc} {cells slots : Nat}
variable {y : MethodName} {bytes cc : ByteArray} {maxL nL mc ms n index : Nat} {ret : Option FieldType} {ws : List Cond} {rm : Room} {Pc : Array Value → State → Prop} {Qc : Array Value → State → Outcome → State → Prop} {XC : String → State → State → Prop} {free : Addr → Prop} {Ts : List Cond} {own C : String} {b : Addr} {As rest : List Value} {g : JFrame}
theorem vx_runI (S : CallFix p m c cc nL s args Ts own) (hM : vx_Met l y ws rm Pc Qc XC mc ms free) (cw : CallB R s args own index y bytes maxL none ws rm mc ms n ∧ y.name = "<init>" ∧ (Cond.instanceMethod y).before args s = true) (hp : PreS s H Pc (.ref b :: As))
    (hg : g.method = m) (hn : As.length = n) (hsize : g.locals.size = nL) (hstack : g.stack = As.reverse ++ .ref b :: rest) (hW : 2 * g.monitorRoom + (rest.map fun v => v.category).sum ≤ 8) (hdg : decode cc g.pc = .ok (.invokespecial index, 3)) (hf : cells + mc ≤ R.cells ∧ slots + ms ≤ R.slots) :
    vx_Run p l e R s m args below meth c H locs cells slots mc ms g rest (Qc (Value.ref b :: As).toArray) XC free := by
  have hK : vx_Back l R p e below s args y 3 8 (PreOf R mc ms Pc) (PostOf Qc mc ms free) (vx_Post XC mc ms free) := vx_callBack cw.1 hM hp.1
  obtain ⟨⟨-, -, -, -, -, -, hcode, -, hy, hlen, hl⟩, hy1, hin⟩ := cw
  obtain ⟨hx, hb, hml, ho, -⟩ := S
  have hPc := hp.2
  intro T hT X
  rcases vx_callI X hx (bytes := bytes) (maxL := maxL) ho hy1 hl hin hcode hy hK hg (hsize.trans hml.symm) (a := b) (argsL := As) (rest := rest) (fun sig h => hn.trans (hlen sig h)) hstack hW (by rw [hb]; exact hdg)
    (fun vm₁ hW₁ => ⟨hf.1, hf.2, hPc (T.setVm vm₁) hT hW₁⟩) with ⟨v, vm₁, ⟨U', l2, c2, s2⟩, hW₁, X', ⟨g', mk, t, L, e1, e2, hq, h1, hL, h2, h3⟩, st⟩ | ⟨q, vm₁, ⟨U', l2, c2, s2⟩, hW₁, X', ⟨g', mk, t, L, E, ce, e1, e2, hq, hce, hcv, hcl, h1, hL, h2, h3⟩, st⟩
  · dsimp only [Pt.U, Pt.locs, Pt.cells, Pt.slots] at X' e1 e2 h1 h2 h3 st
    subst h1; subst h2; subst h3
    exact Or.inl ⟨v, (T.setVm vm₁).calling g' mk (Value.ref b :: As).toArray, t, U', L, hT, X', hL, e1, e2, hq, st⟩
  · dsimp only [Pt.U, Pt.locs, Pt.cells, Pt.slots] at X' e1 e2 h1 h2 h3 st hcl
    subst h1; subst h2; subst h3
    exact Or.inr ⟨q, (T.setVm vm₁).calling g' mk (Value.ref b :: As).toArray, t, U', L, E, ce, hT, X', hL, e1, e2, hq, hce, hcv, vx_cls hW₁ hcl, st⟩
end VXIB
/-! ===== END ===== -/
/-! ===== BEGIN a private method of a nest mate that may throw (follows va_callVN, va_callSN, va_runVN, va_runSN) ===== -/
section
variable {p : Program} {l : Launch} {e : Env} {R : Room} {s : State} {m : MethodId} {args : Array Value} {below : List Frame} {meth : Method} {c : Code} {H : Heap} {locs : List Loc} {cells slots : Nat}
variable {T : State}
theorem vx_callVN (X : Stand p l e R s m args below meth c T locs cells slots) (hexec : p.tables.exec = Jvm.exec) {own C : String} {index : Nat} {host : String} {y : MethodName} {bytes : ByteArray} {maxL : Nat} {ret : Option FieldType}
    (hown : s.vm.findClass own = some m.cls) (hlink : (Cond.methodLinkNest own index y host).before args s = true) (hinst : (Cond.instanceMethod y).before args s = true) (hsel : (Cond.selects C y y).before args s = true)
    (hcode : (Cond.code y bytes maxL ret).before args s = true) (hy : y.cls ≠ "java/lang/invoke/MethodHandle" ∧ y.cls ≠ "java/lang/invoke/VarHandle")
    {W : Nat} {Pre : Pt → Array Value → Prop} {Post : Pt → Array Value → Option Value → Pt → Prop} {PostX : Pt → Array Value → Addr → Pt → Prop} (hK : vx_Back l R p e below s args y 3 W Pre Post PostX)
    {b : Addr} {cellB : Cell} (hcell : T.heap[b]? = some cellB) (hobj : cellB.vm.isStatics = false) (hcls : s.vm.findClass C = some cellB.cls)
    {g : JFrame} (hg : g.method = m) (hsize : g.locals.size = c.maxLocals) {argsL rest : List Value} (hlen : ∀ sig, parseMethodDescriptor y.desc = some sig → argsL.length = sig.parameters.length)
    (hstack : g.stack = argsL.reverse ++ .ref b :: rest) (hW : 2 * g.monitorRoom + (rest.map fun v => v.category).sum ≤ W) (hdg : decode c.code g.pc = .ok (.invokevirtual index, 3))
    (hpre : ∀ vm₁, s.WarmedH vm₁ → Pre ⟨T.setVm vm₁, locs, cells, slots⟩ (Value.ref b :: argsL).toArray) :
    (∃ (v : Option Value) (vm₁ : Vm) (B : Pt), s.WarmedH vm₁ ∧ Stand p l e R s m args below meth c B.U B.locs B.cells B.slots ∧ Post ⟨T.setVm vm₁, locs, cells, slots⟩ (Value.ref b :: argsL).toArray v B ∧
      ∀ target, Steps p.tables e below (B.U.setTop { g with pc := g.pc + 3, stack := v.toList ++ rest }) target → Steps p.tables e below (T.setTop g) target) ∨
    (∃ (q : Addr) (vm₁ : Vm) (B : Pt), s.WarmedH vm₁ ∧ Stand p l e R s m args below meth c B.U B.locs B.cells B.slots ∧ PostX ⟨T.setVm vm₁, locs, cells, slots⟩ (Value.ref b :: argsL).toArray q B ∧
      Steps p.tables e below (T.setTop g) ((B.U.setTop { g with stack := rest }).pushFrame (.throwing q))) := by
  obtain ⟨mk, methM, hnamed, hmethM, hstM, habM⟩ := Cond.instanceMethod_spec hinst
  obtain ⟨methM', cM, hmethM', -, -, -, -, -, -, hsigM⟩ := Cond.code_spec hnamed hcode
  cases hmethM.symm.trans hmethM'
  obtain ⟨c2, r2, m2, q1, q2, q3, q4, kP, hkP, hkPi⟩ := Cond.selects_spec hsel
  cases hcls.symm.trans q1
  cases (State.methodFound?_of_named hnamed hy).symm.trans q2
  cases hnamed.symm.trans q3
  have hselP : selectMethod e.platform s.vm cellB.cls mk = .method mk := by rw [Launch.admits_selectMethod X.admits]; exact q4
  obtain ⟨vm₁, X₁, hstep₁⟩ := X.invokevirtualNest hexec hown hlink hnamed hmethM hstM hkP hkPi hy (a := b) (cell := cellB) hcell
    (fun z h => by rw [h] at hobj; cases hobj) hselP hmethM habM hkP hkPi (g := g) hg (argsL := argsL) (rest := rest) (hlen _ hsigM) hstack hdg
  rcases hK m meth c ⟨T.setVm vm₁, locs, cells, slots⟩ { g with stack := rest } (.invokevirtual index) mk (Value.ref b :: argsL).toArray X₁ hg hsize hdg hW (X₁.named hnamed) (hpre vm₁ X₁.warmed) with ⟨v, B, X', hpost, hsteps⟩ | ⟨q, B, X', hpost, hsteps⟩
  · exact Or.inl ⟨v, vm₁, B, X₁.warmed, X', hpost, fun target h => hstep₁ _ fun acts => by rw [doInvoke_state]; exact hsteps.trans h⟩
  · exact Or.inr ⟨q, vm₁, B, X₁.warmed, X', hpost, hstep₁ _ fun acts => by rw [doInvoke_state]; exact hsteps⟩
theorem vx_callSN (X : Stand p l e R s m args below meth c T locs cells slots) (hexec : p.tables.exec = Jvm.exec) {own : String} {index : Nat} {host : String} {y : MethodName} {bytes : ByteArray} {maxL : Nat} {ret : Option FieldType}
    (hown : s.vm.findClass own = some m.cls) (hlink : (Cond.methodLinkNest own index y host).before args s = true) (hstat : (Cond.static y).before args s = true) (hinit : (Cond.initialized y.cls).before args s = true)
    (hcode : (Cond.code y bytes maxL ret).before args s = true) (hy : y.cls ≠ "java/lang/invoke/MethodHandle" ∧ y.cls ≠ "java/lang/invoke/VarHandle")
    {W : Nat} {Pre : Pt → Array Value → Prop} {Post : Pt → Array Value → Option Value → Pt → Prop} {PostX : Pt → Array Value → Addr → Pt → Prop} (hK : vx_Back l R p e below s args y 3 W Pre Post PostX)
    {g : JFrame} (hg : g.method = m) (hsize : g.locals.size = c.maxLocals) {argsL rest : List Value} (hlen : ∀ sig, parseMethodDescriptor y.desc = some sig → argsL.length = sig.parameters.length)
    (hstack : g.stack = argsL.reverse ++ rest) (hW : 2 * g.monitorRoom + (rest.map fun v => v.category).sum ≤ W) (hdg : decode c.code g.pc = .ok (.invokestatic index, 3))
    (hpre : ∀ vm₁, s.WarmedH vm₁ → Pre ⟨T.setVm vm₁, locs, cells, slots⟩ argsL.toArray) :
    (∃ (v : Option Value) (vm₁ : Vm) (B : Pt), s.WarmedH vm₁ ∧ Stand p l e R s m args below meth c B.U B.locs B.cells B.slots ∧ Post ⟨T.setVm vm₁, locs, cells, slots⟩ argsL.toArray v B ∧
      ∀ target, Steps p.tables e below (B.U.setTop { g with pc := g.pc + 3, stack := v.toList ++ rest }) target → Steps p.tables e below (T.setTop g) target) ∨
    (∃ (q : Addr) (vm₁ : Vm) (B : Pt), s.WarmedH vm₁ ∧ Stand p l e R s m args below meth c B.U B.locs B.cells B.slots ∧ PostX ⟨T.setVm vm₁, locs, cells, slots⟩ argsL.toArray q B ∧
      Steps p.tables e below (T.setTop g) ((B.U.setTop { g with stack := rest }).pushFrame (.throwing q))) := by
  obtain ⟨mk, hnamed⟩ := Cond.code_named hcode
  obtain ⟨methM, cM, hmethM, -, -, -, -, -, -, hsigM⟩ := Cond.code_spec hnamed hcode
  have hstatic : methM.isStatic = true := Cond.static_spec hnamed hmethM hstat
  obtain ⟨kP, hkP, -⟩ := className_of_methodNamed hnamed
  have hinitP : kP.init = .initialized := Cond.initialized_spec (findClass_of_methodNamed hnamed) hkP hinit
  obtain ⟨vm₁, X₁, hstep₁⟩ := X.invokestaticNest hexec hown hlink hnamed hmethM hstatic hkP hinitP hy (g := g) hg (argsL := argsL) (rest := rest) (hlen _ hsigM) hstack hdg
  rcases hK m meth c ⟨T.setVm vm₁, locs, cells, slots⟩ { g with stack := rest } (.invokestatic index) mk argsL.toArray X₁ hg hsize hdg hW (X₁.named hnamed) (hpre vm₁ X₁.warmed) with ⟨v, B, X', hpost, hsteps⟩ | ⟨q, B, X', hpost, hsteps⟩
  · exact Or.inl ⟨v, vm₁, B, X₁.warmed, X', hpost, fun target h => hstep₁ _ fun acts => by rw [doInvoke_state]; exact hsteps.trans h⟩
  · exact Or.inr ⟨q, vm₁, B, X₁.warmed, X', hpost, hstep₁ _ fun acts => by rw [doInvoke_state]; exact hsteps⟩
theorem vx_runVN {y : MethodName} {bytes cc : ByteArray} {maxL nL mc ms n index : Nat} {ret : Option FieldType} {ws : List Cond} {rm : Room} {Pc : Array Value → State → Prop} {Qc : Array Value → State → Outcome → State → Prop} {XC : String → State → State → Prop} {free : Addr → Prop} {Ts : List Cond} {own C host : String} {b : Addr} {As rest : List Value} {g : JFrame}
    (S : CallFix p m c cc nL s args Ts own) (hM : vx_Met l y ws rm Pc Qc XC mc ms free) (cw : va_CN R s args own index y host bytes maxL ret ws rm mc ms n ∧ (Cond.instanceMethod y).before args s = true ∧ (Cond.selects C y y).before args s = true) (hp : PreV s H C b Pc As)
    (hg : g.method = m) (hn : As.length = n) (hsize : g.locals.size = nL) (hstack : g.stack = As.reverse ++ .ref b :: rest) (hW : 2 * g.monitorRoom + (rest.map fun v => v.category).sum ≤ 8) (hdg : decode cc g.pc = .ok (.invokevirtual index, 3)) (hf : cells + mc ≤ R.cells ∧ slots + ms ≤ R.slots) :
    vx_Run p l e R s m args below meth c H locs cells slots mc ms g rest (Qc (Value.ref b :: As).toArray) XC free := by
  obtain ⟨⟨⟨hrc, hrs, hfr, hlo, hws, hcw⟩, hcode, hini, hy, hlen, hl⟩, hx1, hx2⟩ := cw
  have hK : vx_Back l R p e below s args y 3 8 (PreOf R mc ms Pc) (PostOf Qc mc ms free) (vx_Post XC mc ms free) := vx_back (bytes := bytes) (maxL := maxL) (ret := ret) hM hp.1 hrc hrs hfr hlo hws hcw (fun a' U hW => word_at hW (Or.inl (by first | rfl | simp [Cond.onTables, Cond.keeps, Cond.steady])) hini)
  obtain ⟨hx, hb, hml, ho, -⟩ := S
  obtain ⟨-, ⟨cellB, hcB, hoB, hclB⟩, hPc⟩ := hp
  intro T hT X
  rcases vx_callVN X hx (C := C) (bytes := bytes) (maxL := maxL) (ret := ret) ho hl hx1 hx2 hcode hy hK (by rw [hT]; exact hcB) hoB hclB hg (hsize.trans hml.symm) (argsL := As) (rest := rest) (fun sig h => hn.trans (hlen sig h)) hstack hW (by rw [hb]; exact hdg)
    (fun vm₁ hW₁ => ⟨hf.1, hf.2, hPc (T.setVm vm₁) hT hW₁⟩) with ⟨v, vm₁, ⟨U', l2, c2, s2⟩, hW₁, X', ⟨g', mk, t, L, e1, e2, hq, h1, hL, h2, h3⟩, st⟩ | ⟨q, vm₁, ⟨U', l2, c2, s2⟩, hW₁, X', ⟨g', mk, t, L, E, ce, e1, e2, hq, hce, hcv, hcl, h1, hL, h2, h3⟩, st⟩
  · dsimp only [Pt.U, Pt.locs, Pt.cells, Pt.slots] at X' e1 e2 h1 h2 h3 st
    subst h1; subst h2; subst h3
    exact Or.inl ⟨v, (T.setVm vm₁).calling g' mk (Value.ref b :: As).toArray, t, U', L, hT, X', hL, e1, e2, hq, st⟩
  · dsimp only [Pt.U, Pt.locs, Pt.cells, Pt.slots] at X' e1 e2 h1 h2 h3 st hcl
    subst h1; subst h2; subst h3
    exact Or.inr ⟨q, (T.setVm vm₁).calling g' mk (Value.ref b :: As).toArray, t, U', L, E, ce, hT, X', hL, e1, e2, hq, hce, hcv, vx_cls hW₁ hcl, st⟩
theorem vx_runSN {y : MethodName} {bytes cc : ByteArray} {maxL nL mc ms n index : Nat} {ret : Option FieldType} {ws : List Cond} {rm : Room} {Pc : Array Value → State → Prop} {Qc : Array Value → State → Outcome → State → Prop} {XC : String → State → State → Prop} {free : Addr → Prop} {Ts : List Cond} {own host : String} {As rest : List Value} {g : JFrame}
    (S : CallFix p m c cc nL s args Ts own) (hM : vx_Met l y ws rm Pc Qc XC mc ms free) (cw : va_CN R s args own index y host bytes maxL ret ws rm mc ms n ∧ (Cond.static y).before args s = true ∧ True) (hp : PreS s H Pc As)
    (hg : g.method = m) (hn : As.length = n) (hsize : g.locals.size = nL) (hstack : g.stack = As.reverse ++ rest) (hW : 2 * g.monitorRoom + (rest.map fun v => v.category).sum ≤ 8) (hdg : decode cc g.pc = .ok (.invokestatic index, 3)) (hf : cells + mc ≤ R.cells ∧ slots + ms ≤ R.slots) :
    vx_Run p l e R s m args below meth c H locs cells slots mc ms g rest (Qc As.toArray) XC free := by
  obtain ⟨⟨⟨hrc, hrs, hfr, hlo, hws, hcw⟩, hcode, hini, hy, hlen, hl⟩, hx1, hx2⟩ := cw
  have hK : vx_Back l R p e below s args y 3 8 (PreOf R mc ms Pc) (PostOf Qc mc ms free) (vx_Post XC mc ms free) := vx_back (bytes := bytes) (maxL := maxL) (ret := ret) hM hp.1 hrc hrs hfr hlo hws hcw (fun a' U hW => word_at hW (Or.inl (by first | rfl | simp [Cond.onTables, Cond.keeps, Cond.steady])) hini)
  obtain ⟨hx, hb, hml, ho, -⟩ := S
  have hPc := hp.2
  intro T hT X
  rcases vx_callSN X hx (bytes := bytes) (maxL := maxL) (ret := ret) ho hl hx1 hini hcode hy hK hg (hsize.trans hml.symm) (argsL := As) (rest := rest) (fun sig h => hn.trans (hlen sig h)) hstack hW (by rw [hb]; exact hdg)
    (fun vm₁ hW₁ => ⟨hf.1, hf.2, hPc (T.setVm vm₁) hT hW₁⟩) with ⟨v, vm₁, ⟨U', l2, c2, s2⟩, hW₁, X', ⟨g', mk, t, L, e1, e2, hq, h1, hL, h2, h3⟩, st⟩ | ⟨q, vm₁, ⟨U', l2, c2, s2⟩, hW₁, X', ⟨g', mk, t, L, E, ce, e1, e2, hq, hce, hcv, hcl, h1, hL, h2, h3⟩, st⟩
  · dsimp only [Pt.U, Pt.locs, Pt.cells, Pt.slots] at X' e1 e2 h1 h2 h3 st
    subst h1; subst h2; subst h3
    exact Or.inl ⟨v, (T.setVm vm₁).calling g' mk As.toArray, t, U', L, hT, X', hL, e1, e2, hq, st⟩
  · dsimp only [Pt.U, Pt.locs, Pt.cells, Pt.slots] at X' e1 e2 h1 h2 h3 st hcl
    subst h1; subst h2; subst h3
    exact Or.inr ⟨q, (T.setVm vm₁).calling g' mk As.toArray, t, U', L, E, ce, hT, X', hL, e1, e2, hq, hce, hcv, vx_cls hW₁ hcl, st⟩
end
/-! ===== END ===== -/
/-! ===== BEGIN calls by an interface of methods that may throw (vx_callIF, vx_runF follow va_callIF, va_runF of this kit) ===== -/
section
variable {p : Program} {l : Launch} {e : Env} {R : Room} {s : State} {m : MethodId} {args : Array Value} {below : List Frame} {meth : Method} {c : Code} {H : Heap} {locs : List Loc} {cells slots : Nat} {Q : State → Prop}
variable {mc ms : Nat} {free : Addr → Prop} {A0 A1 : Nat → Prop} {H0 : Heap} {a : Array Value} {pc : Nat} {ls : Array Slot} {st0 rest : List Value}
def vx_Run5 (p : Program) (l : Launch) (e : Env) (R : Room) (s : State) (m : MethodId) (args : Array Value) (below : List Frame) (meth : Method) (c : Code) (H : Heap) (locs : List Loc) (cells slots mc ms : Nat) (g : JFrame) (rest : List Value) (Qa : State → Outcome → State → Prop) (XC : String → State → State → Prop) (free : Addr → Prop) : Prop :=
  ∀ T : State, T.heap = H → Stand p l e R s m args below meth c T locs cells slots →
    (∃ (v : Option Value) (st₀ t T' : State) (L : List Loc), st₀.heap = H ∧ Stand p l e R s m args below meth c T' (locs ++ L) (cells + mc) (slots + ms) ∧ (∀ q ∈ L, free q.base) ∧ T'.heap = t.heap ∧ T'.vm = t.vm ∧ Qa st₀ (.returned v) t ∧
      Goes p e below T g T' { g with pc := g.pc + 5, stack := v.toList ++ rest }) ∨
    (∃ (q : Addr) (st₀ t T' : State) (L : List Loc) (E : String) (ce : Cell), st₀.heap = H ∧ Stand p l e R s m args below meth c T' (locs ++ L) (cells + mc) (slots + ms) ∧ (∀ z ∈ L, free z.base) ∧ T'.heap = t.heap ∧ T'.vm = t.vm ∧ XC E st₀ t ∧ t.heap[q]? = some ce ∧ ce.vm = .none ∧ s.vm.findClass E = some ce.cls ∧
      Steps p.tables e below (T.setTop g) ((T'.setTop { g with stack := rest }).pushFrame (.throwing q)))
theorem vx_callIF {T : State} (X : Stand p l e R s m args below meth c T locs cells slots) (hexec : p.tables.exec = Jvm.exec) {own C : String} {index count : Nat} {x y : MethodName} {bytes : ByteArray} {maxL : Nat} {ret : Option FieldType}
    (hown : s.vm.findClass own = some m.cls) (hlink : (Cond.methodLink own index x).before args s = true) (hdecl : (Cond.declares x).before args s = true) (hface : (Cond.interfaceMethod x.cls x.cls x.name x.desc).before args s = true)
    (hsel : (Cond.selects C x y).before args s = true) (hinst : (Cond.instanceMethod y).before args s = true) (hpub : (Cond.publicMethod y).before args s = true) (hunh : (Cond.unhidden C x.name x.desc).before args s = true)
    (hcast : (Cond.castable C x.cls).before args s = true) (hcode : (Cond.code y bytes maxL ret).before args s = true) (hx : x.cls ≠ "java/lang/invoke/MethodHandle" ∧ x.cls ≠ "java/lang/invoke/VarHandle")
    {W9 : Nat} {Pre : Pt → Array Value → Prop} {Post : Pt → Array Value → Option Value → Pt → Prop} {PostX : Pt → Array Value → Addr → Pt → Prop} (hK : vx_Back l R p e below s args y 5 W9 Pre Post PostX)
    {b : Addr} {cellB : Cell} {kB : Class} (hcell : T.heap[b]? = some cellB) (hobj : cellB.vm.isStatics = false) (hcls : s.vm.findClass C = some cellB.cls) (hkB : s.vm.classes[cellB.cls]? = some kB)
    {g : JFrame} (hg : g.method = m) (hsize : g.locals.size = c.maxLocals) {argsL rest : List Value} (hlen : ∀ sig, parseMethodDescriptor x.desc = some sig → argsL.length = sig.parameters.length)
    (hstack : g.stack = argsL.reverse ++ .ref b :: rest) (hW : 2 * g.monitorRoom + (rest.map fun v => v.category).sum ≤ W9) (hdg : decode c.code g.pc = .ok (.invokeinterface index count, 5))
    (hpre : ∀ vm₁, s.WarmedH vm₁ → Pre ⟨T.setVm vm₁, locs, cells, slots⟩ (Value.ref b :: argsL).toArray) :
    (∃ (v : Option Value) (vm₁ : Vm) (B : Pt), s.WarmedH vm₁ ∧ Stand p l e R s m args below meth c B.U B.locs B.cells B.slots ∧ Post ⟨T.setVm vm₁, locs, cells, slots⟩ (Value.ref b :: argsL).toArray v B ∧
      ∀ target, Steps p.tables e below (B.U.setTop { g with pc := g.pc + 5, stack := v.toList ++ rest }) target → Steps p.tables e below (T.setTop g) target) ∨
    (∃ (q : Addr) (vm₁ : Vm) (B : Pt), s.WarmedH vm₁ ∧ Stand p l e R s m args below meth c B.U B.locs B.cells B.slots ∧ PostX ⟨T.setVm vm₁, locs, cells, slots⟩ (Value.ref b :: argsL).toArray q B ∧
      Steps p.tables e below (T.setTop g) ((B.U.setTop { g with stack := rest }).pushFrame (.throwing q))) := by
  obtain ⟨r0, r, hn, hrm, hstR, hsigR⟩ := Cond.declares_spec hdecl
  obtain ⟨cL, kL, r1, hcL, hkL, hiL, hfoundL, hn1⟩ := Cond.interfaceMethod_spec hface
  cases hn.symm.trans hn1
  have hr0cls : r0.cls = cL := Option.some.inj ((findClass_of_methodNamed hn).symm.trans hcL)
  obtain ⟨hnameR, hdescR⟩ := name_of_methodNamed hn hrm
  obtain ⟨mk, methM, hnamed, hmethM, -, habM⟩ := Cond.instanceMethod_spec hinst
  obtain ⟨c2, r2, m2, q1, q2, q3, q4, -⟩ := Cond.selects_spec hsel
  cases hcls.symm.trans q1
  cases hfoundL.symm.trans q2
  cases hnamed.symm.trans q3
  have hselP : selectMethod e.platform s.vm cellB.cls r0 = .method mk := by rw [Launch.admits_selectMethod X.admits]; exact q4
  have hpubM : hasFlag methM.accessFlags Acc.public_ = true := Cond.publicMethod_spec hnamed hmethM hpub
  have hway : ((cellB.cls :: s.vm.superclasses cellB.cls).any fun k => (declaredIn s.vm r.name r.desc k).any fun (_, z) => z.isPrivate || z.isStatic) = false := by
    rw [hnameR, hdescR]; exact Cond.unhidden_spec hcls hunh
  obtain ⟨c3, t3, w1, w2, w3⟩ := Cond.castable_spec hcast
  cases hcls.symm.trans w1
  cases hcL.symm.trans w2
  obtain ⟨vm₁, X₁, hstep₁⟩ := X.invokeinterface hexec hown hlink hn hrm hstR (by rw [hr0cls]; exact hkL) hiL hx (a := b) (cell := cellB) (kcell := kB) hcell
    (fun z h => by rw [h] at hobj; cases hobj) hkB (by rw [hr0cls]; exact w3) hselP hmethM hway hpubM habM (g := g) hg (argsL := argsL) (rest := rest) (hlen _ hsigR) hstack hdg
  rcases hK m meth c ⟨T.setVm vm₁, locs, cells, slots⟩ { g with stack := rest } (.invokeinterface index count) mk (Value.ref b :: argsL).toArray X₁ hg hsize hdg hW (X₁.named hnamed) (hpre vm₁ X₁.warmed) with ⟨v, B, X', hpost, hsteps⟩ | ⟨q, B, X', hpost, hsteps⟩
  · exact Or.inl ⟨v, vm₁, B, X₁.warmed, X', hpost, fun target h => hstep₁ _ fun acts => by rw [doInvoke_state]; exact hsteps.trans h⟩
  · exact Or.inr ⟨q, vm₁, B, X₁.warmed, X', hpost, hstep₁ _ fun acts => by rw [doInvoke_state]; exact hsteps⟩
theorem vx_runF {x y : MethodName} {bytes cc : ByteArray} {maxL nL mc ms n index count : Nat} {ret : Option FieldType} {ws : List Cond} {rm : Room} {Pc : Array Value → State → Prop} {Qc : Array Value → State → Outcome → State → Prop} {XC : String → State → State → Prop} {free : Addr → Prop} {Ts : List Cond} {own C : String} {cC : ClassId} {b : Addr} {As rest : List Value} {g : JFrame}
    (hat : ClassAt s C cC) (S : CallFix p m c cc nL s args Ts own) (hM : vx_Met l y ws rm Pc Qc XC mc ms free) (cw : va_CI R s args own C index x y bytes maxL ret ws rm mc ms n) (hp : PreV s H C b Pc As)
    (hg : g.method = m) (hn : As.length = n) (hsize : g.locals.size = nL) (hstack : g.stack = As.reverse ++ .ref b :: rest) (hW : 2 * g.monitorRoom + (rest.map fun v => v.category).sum ≤ 8) (hdg : decode cc g.pc = .ok (.invokeinterface index count, 5)) (hf : cells + mc ≤ R.cells ∧ slots + ms ≤ R.slots) :
    vx_Run5 p l e R s m args below meth c H locs cells slots mc ms g rest (Qc (Value.ref b :: As).toArray) XC free := by
  obtain ⟨hrc, hrs, hfr, hlo, hws, hcw⟩ := cw.back
  have hini := cw.init
  have hK : vx_Back l R p e below s args y 5 8 (PreOf R mc ms Pc) (PostOf Qc mc ms free) (vx_Post XC mc ms free) := vx_back (bytes := bytes) (maxL := maxL) (ret := ret) hM hp.1 hrc hrs hfr hlo hws hcw (fun a' U hW => word_at hW (Or.inl (by first | rfl | simp [Cond.onTables, Cond.keeps, Cond.steady])) hini)
  obtain ⟨hx, hb, hml, ho, -⟩ := S
  obtain ⟨-, ⟨cellB, hcB, hoB, hclB⟩, hPc⟩ := hp
  obtain ⟨hfc, kB, hkB, -⟩ := hat
  cases hfc.symm.trans hclB
  intro T hT X
  rcases vx_callIF X hx (C := C) (bytes := bytes) (maxL := maxL) (ret := ret) ho cw.link cw.decl cw.face cw.sel cw.inst cw.pub cw.unh cw.cast cw.code cw.notMH hK (by rw [hT]; exact hcB) hoB hclB hkB hg (hsize.trans hml.symm) (argsL := As) (rest := rest) (fun sig h => hn.trans (cw.len sig h)) hstack hW (by rw [hb]; exact hdg)
    (fun vm₁ hW₁ => ⟨hf.1, hf.2, hPc (T.setVm vm₁) hT hW₁⟩) with ⟨v, vm₁, ⟨U', l2, c2, s2⟩, hW₁, X', ⟨g', mk, t, L, e1, e2, hq, h1, hL, h2, h3⟩, st⟩ | ⟨q, vm₁, ⟨U', l2, c2, s2⟩, hW₁, X', ⟨g', mk, t, L, E, ce, e1, e2, hq, hce, hcv, hcl, h1, hL, h2, h3⟩, st⟩
  · dsimp only [Pt.U, Pt.locs, Pt.cells, Pt.slots] at X' e1 e2 h1 h2 h3 st
    subst h1; subst h2; subst h3
    exact Or.inl ⟨v, (T.setVm vm₁).calling g' mk (Value.ref b :: As).toArray, t, U', L, hT, X', hL, e1, e2, hq, st⟩
  · dsimp only [Pt.U, Pt.locs, Pt.cells, Pt.slots] at X' e1 e2 h1 h2 h3 st hcl
    subst h1; subst h2; subst h3
    exact Or.inr ⟨q, (T.setVm vm₁).calling g' mk (Value.ref b :: As).toArray, t, U', L, E, ce, hT, X', hL, e1, e2, hq, hce, hcv, vx_cls hW₁ hcl, st⟩
theorem vx_callFv {S SX : Type} {post : S → Prop} {px : SX → Prop} {B : S → State → Prop} {BX : String → SX → State → Prop} {AX : Nat → Prop} (hr : vx_Run5 p l e R s m args below meth c H locs cells slots mc ms (F0 m pc ls st0) rest (va_Qv post B A1 a) (vx_X px BX AX) free) (hS : va_S A0 H0 H locs) (hA : ∀ q, q < H.size → A1 q → A0 q) (hf : ∀ q, free q → A0 q) (hAX : ∀ q, q < H.size → AX q → A0 q)
    (kx : ∀ (E : String) (ce : Cell) (q9 : Addr) (u : SX) (t : State) (H1 : Heap) (locs1 : List Loc), t.heap = H1 → s.vm.Alike t.vm → px u → BX E u t → H.size ≤ H1.size → (∀ q : Nat, q < H.size → ¬ AX q → H1[q]? = H[q]?) → va_S A0 H0 H1 locs1 → H1[q9]? = some ce → ce.vm = .none → s.vm.findClass E = some ce.cls → vx_W p l e R s m args below meth c H1 locs1 (cells + mc) (slots + ms) Q (F0 m pc ls rest) q9)
    (kk : ∀ (u : S) (t : State) (H1 : Heap) (locs1 : List Loc), t.heap = H1 → s.vm.Alike t.vm → post u → B u t → H.size ≤ H1.size → (∀ q : Nat, q < H.size → ¬ A1 q → H1[q]? = H[q]?) → va_S A0 H0 H1 locs1 → W p l e R s m args below meth c H1 locs1 (cells + mc) (slots + ms) Q (F0 m (pc + 5) ls (rest))) : W p l e R s m args below meth c H locs cells slots Q (F0 m pc ls st0) := by
  intro T hT X
  rcases hr T hT X with ⟨v, st₀, t, T', L, h0, X', hL, e1, e2, ⟨⟨u, hv, hp, hb⟩, hF⟩, st⟩ | ⟨q, st₀, t, T', L, E, ce, h0, X', hL, e1, e2, ⟨u, hp, hb, hF⟩, hce, hcv, hcl, st⟩
  · cases hv
    obtain ⟨k1, k2, k3⟩ := vx_keep h0 e1 hS hA hf hL hF
    obtain ⟨t2, a1, b1⟩ := kk u t T'.heap (locs ++ L) e1.symm (by rw [← e2]; exact X'.warmed.alike) hp hb k1 k2 k3 T' rfl X'
    exact ⟨t2, st t2 a1, b1⟩
  · obtain ⟨k1, k2, k3⟩ := vx_keep h0 e1 hS hAX hf hL hF
    obtain ⟨t2, a1, b1⟩ := kx E ce q u t T'.heap (locs ++ L) e1.symm (by rw [← e2]; exact X'.warmed.alike) hp hb k1 k2 k3 (by rw [e1]; exact hce) hcv hcl T' rfl X'
    exact ⟨t2, st.trans a1, b1⟩
theorem vx_callFi {S SX : Type} {post : Int32 → S → Prop} {px : SX → Prop} {B : S → State → Prop} {BX : String → SX → State → Prop} {AX : Nat → Prop} (hr : vx_Run5 p l e R s m args below meth c H locs cells slots mc ms (F0 m pc ls st0) rest (va_Qi post B A1 a) (vx_X px BX AX) free) (hS : va_S A0 H0 H locs) (hA : ∀ q, q < H.size → A1 q → A0 q) (hf : ∀ q, free q → A0 q) (hAX : ∀ q, q < H.size → AX q → A0 q)
    (kx : ∀ (E : String) (ce : Cell) (q9 : Addr) (u : SX) (t : State) (H1 : Heap) (locs1 : List Loc), t.heap = H1 → s.vm.Alike t.vm → px u → BX E u t → H.size ≤ H1.size → (∀ q : Nat, q < H.size → ¬ AX q → H1[q]? = H[q]?) → va_S A0 H0 H1 locs1 → H1[q9]? = some ce → ce.vm = .none → s.vm.findClass E = some ce.cls → vx_W p l e R s m args below meth c H1 locs1 (cells + mc) (slots + ms) Q (F0 m pc ls rest) q9)
    (kk : ∀ (r : Int32) (u : S) (t : State) (H1 : Heap) (locs1 : List Loc), t.heap = H1 → s.vm.Alike t.vm → post r u → B u t → H.size ≤ H1.size → (∀ q : Nat, q < H.size → ¬ A1 q → H1[q]? = H[q]?) → va_S A0 H0 H1 locs1 → W p l e R s m args below meth c H1 locs1 (cells + mc) (slots + ms) Q (F0 m (pc + 5) ls (.int r :: rest))) : W p l e R s m args below meth c H locs cells slots Q (F0 m pc ls st0) := by
  intro T hT X
  rcases hr T hT X with ⟨v, st₀, t, T', L, h0, X', hL, e1, e2, ⟨⟨r, u, hv, hp, hb⟩, hF⟩, st⟩ | ⟨q, st₀, t, T', L, E, ce, h0, X', hL, e1, e2, ⟨u, hp, hb, hF⟩, hce, hcv, hcl, st⟩
  · cases hv
    obtain ⟨k1, k2, k3⟩ := vx_keep h0 e1 hS hA hf hL hF
    obtain ⟨t2, a1, b1⟩ := kk r u t T'.heap (locs ++ L) e1.symm (by rw [← e2]; exact X'.warmed.alike) hp hb k1 k2 k3 T' rfl X'
    exact ⟨t2, st t2 a1, b1⟩
  · obtain ⟨k1, k2, k3⟩ := vx_keep h0 e1 hS hAX hf hL hF
    obtain ⟨t2, a1, b1⟩ := kx E ce q u t T'.heap (locs ++ L) e1.symm (by rw [← e2]; exact X'.warmed.alike) hp hb k1 k2 k3 (by rw [e1]; exact hce) hcv hcl T' rfl X'
    exact ⟨t2, st.trans a1, b1⟩
theorem vx_callFl {S SX : Type} {post : Int64 → S → Prop} {px : SX → Prop} {B : S → State → Prop} {BX : String → SX → State → Prop} {AX : Nat → Prop} (hr : vx_Run5 p l e R s m args below meth c H locs cells slots mc ms (F0 m pc ls st0) rest (va_Ql post B A1 a) (vx_X px BX AX) free) (hS : va_S A0 H0 H locs) (hA : ∀ q, q < H.size → A1 q → A0 q) (hf : ∀ q, free q → A0 q) (hAX : ∀ q, q < H.size → AX q → A0 q)
    (kx : ∀ (E : String) (ce : Cell) (q9 : Addr) (u : SX) (t : State) (H1 : Heap) (locs1 : List Loc), t.heap = H1 → s.vm.Alike t.vm → px u → BX E u t → H.size ≤ H1.size → (∀ q : Nat, q < H.size → ¬ AX q → H1[q]? = H[q]?) → va_S A0 H0 H1 locs1 → H1[q9]? = some ce → ce.vm = .none → s.vm.findClass E = some ce.cls → vx_W p l e R s m args below meth c H1 locs1 (cells + mc) (slots + ms) Q (F0 m pc ls rest) q9)
    (kk : ∀ (r : Int64) (u : S) (t : State) (H1 : Heap) (locs1 : List Loc), t.heap = H1 → s.vm.Alike t.vm → post r u → B u t → H.size ≤ H1.size → (∀ q : Nat, q < H.size → ¬ A1 q → H1[q]? = H[q]?) → va_S A0 H0 H1 locs1 → W p l e R s m args below meth c H1 locs1 (cells + mc) (slots + ms) Q (F0 m (pc + 5) ls (.long r :: rest))) : W p l e R s m args below meth c H locs cells slots Q (F0 m pc ls st0) := by
  intro T hT X
  rcases hr T hT X with ⟨v, st₀, t, T', L, h0, X', hL, e1, e2, ⟨⟨r, u, hv, hp, hb⟩, hF⟩, st⟩ | ⟨q, st₀, t, T', L, E, ce, h0, X', hL, e1, e2, ⟨u, hp, hb, hF⟩, hce, hcv, hcl, st⟩
  · cases hv
    obtain ⟨k1, k2, k3⟩ := vx_keep h0 e1 hS hA hf hL hF
    obtain ⟨t2, a1, b1⟩ := kk r u t T'.heap (locs ++ L) e1.symm (by rw [← e2]; exact X'.warmed.alike) hp hb k1 k2 k3 T' rfl X'
    exact ⟨t2, st t2 a1, b1⟩
  · obtain ⟨k1, k2, k3⟩ := vx_keep h0 e1 hS hAX hf hL hF
    obtain ⟨t2, a1, b1⟩ := kx E ce q u t T'.heap (locs ++ L) e1.symm (by rw [← e2]; exact X'.warmed.alike) hp hb k1 k2 k3 (by rw [e1]; exact hce) hcv hcl T' rfl X'
    exact ⟨t2, st.trans a1, b1⟩
theorem vx_callFf {S SX : Type} {post : UInt32 → S → Prop} {px : SX → Prop} {B : S → State → Prop} {BX : String → SX → State → Prop} {AX : Nat → Prop} (hr : vx_Run5 p l e R s m args below meth c H locs cells slots mc ms (F0 m pc ls st0) rest (va_Qf post B A1 a) (vx_X px BX AX) free) (hS : va_S A0 H0 H locs) (hA : ∀ q, q < H.size → A1 q → A0 q) (hf : ∀ q, free q → A0 q) (hAX : ∀ q, q < H.size → AX q → A0 q)
    (kx : ∀ (E : String) (ce : Cell) (q9 : Addr) (u : SX) (t : State) (H1 : Heap) (locs1 : List Loc), t.heap = H1 → s.vm.Alike t.vm → px u → BX E u t → H.size ≤ H1.size → (∀ q : Nat, q < H.size → ¬ AX q → H1[q]? = H[q]?) → va_S A0 H0 H1 locs1 → H1[q9]? = some ce → ce.vm = .none → s.vm.findClass E = some ce.cls → vx_W p l e R s m args below meth c H1 locs1 (cells + mc) (slots + ms) Q (F0 m pc ls rest) q9)
    (kk : ∀ (r : UInt32) (u : S) (t : State) (H1 : Heap) (locs1 : List Loc), t.heap = H1 → s.vm.Alike t.vm → post r u → B u t → H.size ≤ H1.size → (∀ q : Nat, q < H.size → ¬ A1 q → H1[q]? = H[q]?) → va_S A0 H0 H1 locs1 → W p l e R s m args below meth c H1 locs1 (cells + mc) (slots + ms) Q (F0 m (pc + 5) ls (.float r :: rest))) : W p l e R s m args below meth c H locs cells slots Q (F0 m pc ls st0) := by
  intro T hT X
  rcases hr T hT X with ⟨v, st₀, t, T', L, h0, X', hL, e1, e2, ⟨⟨r, u, hv, hp, hb⟩, hF⟩, st⟩ | ⟨q, st₀, t, T', L, E, ce, h0, X', hL, e1, e2, ⟨u, hp, hb, hF⟩, hce, hcv, hcl, st⟩
  · cases hv
    obtain ⟨k1, k2, k3⟩ := vx_keep h0 e1 hS hA hf hL hF
    obtain ⟨t2, a1, b1⟩ := kk r u t T'.heap (locs ++ L) e1.symm (by rw [← e2]; exact X'.warmed.alike) hp hb k1 k2 k3 T' rfl X'
    exact ⟨t2, st t2 a1, b1⟩
  · obtain ⟨k1, k2, k3⟩ := vx_keep h0 e1 hS hAX hf hL hF
    obtain ⟨t2, a1, b1⟩ := kx E ce q u t T'.heap (locs ++ L) e1.symm (by rw [← e2]; exact X'.warmed.alike) hp hb k1 k2 k3 (by rw [e1]; exact hce) hcv hcl T' rfl X'
    exact ⟨t2, st.trans a1, b1⟩
theorem vx_callFd {S SX : Type} {post : UInt64 → S → Prop} {px : SX → Prop} {B : S → State → Prop} {BX : String → SX → State → Prop} {AX : Nat → Prop} (hr : vx_Run5 p l e R s m args below meth c H locs cells slots mc ms (F0 m pc ls st0) rest (va_Qd post B A1 a) (vx_X px BX AX) free) (hS : va_S A0 H0 H locs) (hA : ∀ q, q < H.size → A1 q → A0 q) (hf : ∀ q, free q → A0 q) (hAX : ∀ q, q < H.size → AX q → A0 q)
    (kx : ∀ (E : String) (ce : Cell) (q9 : Addr) (u : SX) (t : State) (H1 : Heap) (locs1 : List Loc), t.heap = H1 → s.vm.Alike t.vm → px u → BX E u t → H.size ≤ H1.size → (∀ q : Nat, q < H.size → ¬ AX q → H1[q]? = H[q]?) → va_S A0 H0 H1 locs1 → H1[q9]? = some ce → ce.vm = .none → s.vm.findClass E = some ce.cls → vx_W p l e R s m args below meth c H1 locs1 (cells + mc) (slots + ms) Q (F0 m pc ls rest) q9)
    (kk : ∀ (r : UInt64) (u : S) (t : State) (H1 : Heap) (locs1 : List Loc), t.heap = H1 → s.vm.Alike t.vm → post r u → B u t → H.size ≤ H1.size → (∀ q : Nat, q < H.size → ¬ A1 q → H1[q]? = H[q]?) → va_S A0 H0 H1 locs1 → W p l e R s m args below meth c H1 locs1 (cells + mc) (slots + ms) Q (F0 m (pc + 5) ls (.double r :: rest))) : W p l e R s m args below meth c H locs cells slots Q (F0 m pc ls st0) := by
  intro T hT X
  rcases hr T hT X with ⟨v, st₀, t, T', L, h0, X', hL, e1, e2, ⟨⟨r, u, hv, hp, hb⟩, hF⟩, st⟩ | ⟨q, st₀, t, T', L, E, ce, h0, X', hL, e1, e2, ⟨u, hp, hb, hF⟩, hce, hcv, hcl, st⟩
  · cases hv
    obtain ⟨k1, k2, k3⟩ := vx_keep h0 e1 hS hA hf hL hF
    obtain ⟨t2, a1, b1⟩ := kk r u t T'.heap (locs ++ L) e1.symm (by rw [← e2]; exact X'.warmed.alike) hp hb k1 k2 k3 T' rfl X'
    exact ⟨t2, st t2 a1, b1⟩
  · obtain ⟨k1, k2, k3⟩ := vx_keep h0 e1 hS hAX hf hL hF
    obtain ⟨t2, a1, b1⟩ := kx E ce q u t T'.heap (locs ++ L) e1.symm (by rw [← e2]; exact X'.warmed.alike) hp hb k1 k2 k3 (by rw [e1]; exact hce) hcv hcl T' rfl X'
    exact ⟨t2, st.trans a1, b1⟩
end
/-! ===== END ===== -/
end
section
def RX0 : String := "Signatory$Deed"
def TX0 : u_T := fun k => match k with
  | 0 => ("Signatory$Deed", "number", "I", true)
  | 1 => ("Signatory$Deed", "signer", "I", true)
  | 2 => ("Signatory$Deed", "other", "I", true)
  | 3 => ("Signatory$Deed", "kind", "I", true)
  | 4 => ("Signatory$Deed", "amount", "I", true)
  | 5 => ("Signatory$Deed", "party", "I", true)
  | 6 => ("Signatory$Deed", "signedOn", "I", false)
  | 7 => ("Signatory$Deed", "papersWhenSigned", "I", false)
  | 8 => ("Signatory$Deed", "sum", "I", false)
  | 9 => ("Signatory$Deed", "status", "C", false)
  | 10 => ("Signatory$Deed", "lack", "C", false)
  | 11 => ("Signatory$Deed", "lackPower", "I", false)
  | 12 => ("Signatory$Deed", "lackDepth", "I", false)
  | 13 => ("Signatory$Deed", "ratifier", "I", false)
  | 14 => ("Signatory$Deed", "ratifiedOn", "I", false)
  | _ => ("Signatory$Deed", "papersWhenRatified", "I", false)
def tyX0 : Nat → FieldType := fun k => match k with
  | 0 => .int
  | 1 => .int
  | 2 => .int
  | 3 => .int
  | 4 => .int
  | 5 => .int
  | 6 => .int
  | 7 => .int
  | 8 => .int
  | 9 => .char
  | 10 => .char
  | 11 => .int
  | 12 => .int
  | 13 => .int
  | 14 => .int
  | _ => .int
theorem nmX0 : ∀ a, a < 16 → ∀ b, b < 16 → a ≠ b → (TX0 a).2.1 ≠ (TX0 b).2.1 := by decide +kernel
theorem tyX0_ok : ∀ k, k < 16 → parseFieldDescriptor (TX0 k).2.2.1 = some (tyX0 k) := by decide +kernel
abbrev cX0_init : ByteArray := prog_2_method_1_code
def yX0_init : MethodName := ⟨RX0, "<init>", "(IIIIII)V"⟩
abbrev cX0_isStanding : ByteArray := prog_2_method_2_code
def yX0_isStanding : MethodName := ⟨RX0, "isStanding", "()Z"⟩
def RX1 : String := "Signatory$Moment"
def TX1 : u_T := fun k => match k with
  | 0 => ("Signatory$Moment", "limits", "[I", true)
  | 1 => ("Signatory$Moment", "revoked", "[Z", true)
  | 2 => ("Signatory$Moment", "substitutes", "[I", true)
  | 3 => ("Signatory$Moment", "annulled", "[Z", true)
  | 4 => ("Signatory$Moment", "window", "I", false)
  | _ => ("Signatory$Moment", "day", "I", false)
def tyX1 : Nat → FieldType := fun k => match k with
  | 0 => .array .int
  | 1 => .array .boolean
  | 2 => .array .int
  | 3 => .array .boolean
  | 4 => .int
  | _ => .int
theorem nmX1 : ∀ a, a < 6 → ∀ b, b < 6 → a ≠ b → (TX1 a).2.1 ≠ (TX1 b).2.1 := by decide +kernel
theorem tyX1_ok : ∀ k, k < 6 → parseFieldDescriptor (TX1 k).2.2.1 = some (tyX1 k) := by decide +kernel
abbrev cX1_init : ByteArray := prog_3_method_1_code
def yX1_init : MethodName := ⟨RX1, "<init>", "()V"⟩
abbrev cX1_forget : ByteArray := prog_3_method_2_code
def yX1_forget : MethodName := ⟨RX1, "forget", "()V"⟩
abbrev cX1_take : ByteArray := prog_3_method_3_code
def yX1_take : MethodName := ⟨RX1, "take", "(LSignatory$Paper;)V"⟩
abbrev cX1_limitOf : ByteArray := prog_3_method_4_code
def yX1_limitOf : MethodName := ⟨RX1, "limitOf", "(LSignatory$Power;)I"⟩
abbrev cX1_isRevoked : ByteArray := prog_3_method_5_code
def yX1_isRevoked : MethodName := ⟨RX1, "isRevoked", "(LSignatory$Power;)Z"⟩
abbrev cX1_isAnnulled : ByteArray := prog_3_method_6_code
def yX1_isAnnulled : MethodName := ⟨RX1, "isAnnulled", "(LSignatory$Deed;)Z"⟩
abbrev cX1_substituteFor : ByteArray := prog_3_method_7_code
def yX1_substituteFor : MethodName := ⟨RX1, "substituteFor", "(I)I"⟩
abbrev cX1_actsByPowersOf : ByteArray := prog_3_method_8_code
def yX1_actsByPowersOf : MethodName := ⟨RX1, "actsByPowersOf", "(II)Z"⟩
abbrev cX1_ownFault : ByteArray := prog_3_method_9_code
def yX1_ownFault : MethodName := ⟨RX1, "ownFault", "(LSignatory$Power;I)C"⟩
abbrev cX1_faultOf : ByteArray := prog_3_method_10_code
def yX1_faultOf : MethodName := ⟨RX1, "faultOf", "(LSignatory$Power;I)C"⟩
abbrev cX1_stepsToFault : ByteArray := prog_3_method_11_code
def yX1_stepsToFault : MethodName := ⟨RX1, "stepsToFault", "(LSignatory$Power;I)I"⟩
abbrev cX1_reachOf : ByteArray := prog_3_method_12_code
def yX1_reachOf : MethodName := ⟨RX1, "reachOf", "(LSignatory$Power;)I"⟩
def RX2 : String := "Signatory$Paper"
def TX2 : u_T := fun k => match k with
  | 0 => ("Signatory$Paper", "matter", "I", true)
  | 1 => ("Signatory$Paper", "subject", "I", true)
  | _ => ("Signatory$Paper", "value", "I", true)
def tyX2 : Nat → FieldType := fun k => match k with
  | 0 => .int
  | 1 => .int
  | _ => .int
theorem nmX2 : ∀ a, a < 3 → ∀ b, b < 3 → a ≠ b → (TX2 a).2.1 ≠ (TX2 b).2.1 := by decide +kernel
theorem tyX2_ok : ∀ k, k < 3 → parseFieldDescriptor (TX2 k).2.2.1 = some (tyX2 k) := by decide +kernel
abbrev cX2_init : ByteArray := prog_4_method_1_code
def yX2_init : MethodName := ⟨RX2, "<init>", "(III)V"⟩
def RX3 : String := "Signatory$Power"
def TX3 : u_T := fun k => match k with
  | 0 => ("Signatory$Power", "number", "I", true)
  | 1 => ("Signatory$Power", "holder", "I", true)
  | 2 => ("Signatory$Power", "kind", "I", true)
  | 3 => ("Signatory$Power", "hand", "I", true)
  | 4 => ("Signatory$Power", "first", "I", true)
  | 5 => ("Signatory$Power", "last", "I", true)
  | _ => ("Signatory$Power", "source", "LSignatory$Power;", true)
def tyX3 : Nat → FieldType := fun k => match k with
  | 0 => .int
  | 1 => .int
  | 2 => .int
  | 3 => .int
  | 4 => .int
  | 5 => .int
  | _ => .object "Signatory$Power"
theorem nmX3 : ∀ a, a < 7 → ∀ b, b < 7 → a ≠ b → (TX3 a).2.1 ≠ (TX3 b).2.1 := by decide +kernel
theorem tyX3_ok : ∀ k, k < 7 → parseFieldDescriptor (TX3 k).2.2.1 = some (tyX3 k) := by decide +kernel
abbrev cX3_init : ByteArray := prog_5_method_1_code
def yX3_init : MethodName := ⟨RX3, "<init>", "(IIIIIILSignatory$Power;)V"⟩
abbrev cX3_comesFrom : ByteArray := prog_5_method_2_code
def yX3_comesFrom : MethodName := ⟨RX3, "comesFrom", "(LSignatory$Power;)Z"⟩
def RX4 : String := "Signatory"
def TX4 : u_T := fun k => match k with
  | 0 => ("Signatory", "powers", "Ljava/util/List;", true)
  | 1 => ("Signatory", "deeds", "Ljava/util/List;", true)
  | 2 => ("Signatory", "papers", "Ljava/util/List;", true)
  | 3 => ("Signatory", "now", "LSignatory$Moment;", true)
  | 4 => ("Signatory", "past", "LSignatory$Moment;", true)
  | _ => ("Signatory", "personCount", "I", false)
def tyX4 : Nat → FieldType := fun k => match k with
  | 0 => .object "java/util/List"
  | 1 => .object "java/util/List"
  | 2 => .object "java/util/List"
  | 3 => .object "Signatory$Moment"
  | 4 => .object "Signatory$Moment"
  | _ => .int
theorem nmX4 : ∀ a, a < 6 → ∀ b, b < 6 → a ≠ b → (TX4 a).2.1 ≠ (TX4 b).2.1 := by decide +kernel
theorem tyX4_ok : ∀ k, k < 6 → parseFieldDescriptor (TX4 k).2.2.1 = some (tyX4 k) := by decide +kernel
abbrev cX4_init : ByteArray := prog_1_method_1_code
def yX4_init : MethodName := ⟨RX4, "<init>", "()V"⟩
abbrev cX4_addPerson : ByteArray := prog_1_method_2_code
def yX4_addPerson : MethodName := ⟨RX4, "addPerson", "()I"⟩
abbrev cX4_leave : ByteArray := prog_1_method_3_code
def yX4_leave : MethodName := ⟨RX4, "leave", "(II)I"⟩
abbrev cX4_comeBack : ByteArray := prog_1_method_4_code
def yX4_comeBack : MethodName := ⟨RX4, "comeBack", "(I)I"⟩
abbrev cX4_actsFor : ByteArray := prog_1_method_5_code
def yX4_actsFor : MethodName := ⟨RX4, "actsFor", "(II)Z"⟩
abbrev cX4_grant : ByteArray := prog_1_method_6_code
def yX4_grant : MethodName := ⟨RX4, "grant", "(IICIII)I"⟩
abbrev cX4_delegate : ByteArray := prog_1_method_7_code
def yX4_delegate : MethodName := ⟨RX4, "delegate", "(IIIII)I"⟩
abbrev cX4_lower : ByteArray := prog_1_method_8_code
def yX4_lower : MethodName := ⟨RX4, "lower", "(II)I"⟩
abbrev cX4_revoke : ByteArray := prog_1_method_9_code
def yX4_revoke : MethodName := ⟨RX4, "revoke", "(I)I"⟩
abbrev cX4_source : ByteArray := prog_1_method_10_code
def yX4_source : MethodName := ⟨RX4, "source", "(I)I"⟩
abbrev cX4_limit : ByteArray := prog_1_method_11_code
def yX4_limit : MethodName := ⟨RX4, "limit", "(I)I"⟩
abbrev cX4_fault : ByteArray := prog_1_method_12_code
def yX4_fault : MethodName := ⟨RX4, "fault", "(II)C"⟩
abbrev cX4_faultDepth : ByteArray := prog_1_method_13_code
def yX4_faultDepth : MethodName := ⟨RX4, "faultDepth", "(II)I"⟩
abbrev cX4_reach : ByteArray := prog_1_method_14_code
def yX4_reach : MethodName := ⟨RX4, "reach", "(I)I"⟩
abbrev cX4_canSign : ByteArray := prog_1_method_15_code
def yX4_canSign : MethodName := ⟨RX4, "canSign", "(III)Z"⟩
abbrev cX4_canSignTogether : ByteArray := prog_1_method_16_code
def yX4_canSignTogether : MethodName := ⟨RX4, "canSignTogether", "(IIII)Z"⟩
abbrev cX4_signers : ByteArray := prog_1_method_17_code
def yX4_signers : MethodName := ⟨RX4, "signers", "(II)I"⟩
abbrev cX4_pairs : ByteArray := prog_1_method_18_code
def yX4_pairs : MethodName := ⟨RX4, "pairs", "(II)I"⟩
abbrev cX4_pairsByTrying : ByteArray := prog_1_method_19_code
def yX4_pairsByTrying : MethodName := ⟨RX4, "pairsByTrying", "(II)I"⟩
abbrev cX4_sign : ByteArray := prog_1_method_20_code
def yX4_sign : MethodName := ⟨RX4, "sign", "(IIII)I"⟩
abbrev cX4_signTogether : ByteArray := prog_1_method_21_code
def yX4_signTogether : MethodName := ⟨RX4, "signTogether", "(IIIII)I"⟩
abbrev cX4_ratify : ByteArray := prog_1_method_22_code
def yX4_ratify : MethodName := ⟨RX4, "ratify", "(II)I"⟩
abbrev cX4_annul : ByteArray := prog_1_method_23_code
def yX4_annul : MethodName := ⟨RX4, "annul", "(I)I"⟩
abbrev cX4_status : ByteArray := prog_1_method_24_code
def yX4_status : MethodName := ⟨RX4, "status", "(I)C"⟩
abbrev cX4_sum : ByteArray := prog_1_method_25_code
def yX4_sum : MethodName := ⟨RX4, "sum", "(I)I"⟩
abbrev cX4_sumByPapers : ByteArray := prog_1_method_26_code
def yX4_sumByPapers : MethodName := ⟨RX4, "sumByPapers", "(I)I"⟩
abbrev cX4_stands : ByteArray := prog_1_method_27_code
def yX4_stands : MethodName := ⟨RX4, "stands", "(I)Z"⟩
abbrev cX4_standsByPapers : ByteArray := prog_1_method_28_code
def yX4_standsByPapers : MethodName := ⟨RX4, "standsByPapers", "(I)Z"⟩
abbrev cX4_lack : ByteArray := prog_1_method_29_code
def yX4_lack : MethodName := ⟨RX4, "lack", "(I)C"⟩
abbrev cX4_lackPower : ByteArray := prog_1_method_30_code
def yX4_lackPower : MethodName := ⟨RX4, "lackPower", "(I)I"⟩
abbrev cX4_lackDepth : ByteArray := prog_1_method_31_code
def yX4_lackDepth : MethodName := ⟨RX4, "lackDepth", "(I)I"⟩
abbrev cX4_setWindow : ByteArray := prog_1_method_32_code
def yX4_setWindow : MethodName := ⟨RX4, "setWindow", "(I)I"⟩
abbrev cX4_pass : ByteArray := prog_1_method_33_code
def yX4_pass : MethodName := ⟨RX4, "pass", "(I)I"⟩
abbrev cX4_today : ByteArray := prog_1_method_34_code
def yX4_today : MethodName := ⟨RX4, "today", "()I"⟩
abbrev cX4_bound : ByteArray := prog_1_method_35_code
def yX4_bound : MethodName := ⟨RX4, "bound", "()J"⟩
abbrev cX4_standingShare : ByteArray := prog_1_method_36_code
def yX4_standingShare : MethodName := ⟨RX4, "standingShare", "()F"⟩
abbrev cX4_isBetween : ByteArray := prog_1_method_37_code
def yX4_isBetween : MethodName := ⟨RX4, "isBetween", "(III)Z"⟩
abbrev cX4_isIndex : ByteArray := prog_1_method_38_code
def yX4_isIndex : MethodName := ⟨RX4, "isIndex", "(II)Z"⟩
abbrev cX4_requirePerson : ByteArray := prog_1_method_39_code
def yX4_requirePerson : MethodName := ⟨RX4, "requirePerson", "(I)V"⟩
abbrev cX4_findPower : ByteArray := prog_1_method_40_code
def yX4_findPower : MethodName := ⟨RX4, "findPower", "(I)LSignatory$Power;"⟩
abbrev cX4_findDeed : ByteArray := prog_1_method_41_code
def yX4_findDeed : MethodName := ⟨RX4, "findDeed", "(I)LSignatory$Deed;"⟩
abbrev cX4_requireKind : ByteArray := prog_1_method_42_code
def yX4_requireKind : MethodName := ⟨RX4, "requireKind", "(I)V"⟩
abbrev cX4_requireSum : ByteArray := prog_1_method_43_code
def yX4_requireSum : MethodName := ⟨RX4, "requireSum", "(I)V"⟩
abbrev cX4_requireLimitAndDays : ByteArray := prog_1_method_44_code
def yX4_requireLimitAndDays : MethodName := ⟨RX4, "requireLimitAndDays", "(III)V"⟩
abbrev cX4_requireDealing : ByteArray := prog_1_method_45_code
def yX4_requireDealing : MethodName := ⟨RX4, "requireDealing", "(III)V"⟩
abbrev cX4_requireDayCount : ByteArray := prog_1_method_46_code
def yX4_requireDayCount : MethodName := ⟨RX4, "requireDayCount", "(I)V"⟩
abbrev cX4_requireTwo : ByteArray := prog_1_method_47_code
def yX4_requireTwo : MethodName := ⟨RX4, "requireTwo", "(II)V"⟩
abbrev cX4_requireRoomForPower : ByteArray := prog_1_method_48_code
def yX4_requireRoomForPower : MethodName := ⟨RX4, "requireRoomForPower", "()V"⟩
abbrev cX4_requireRoomForDeed : ByteArray := prog_1_method_49_code
def yX4_requireRoomForDeed : MethodName := ⟨RX4, "requireRoomForDeed", "()V"⟩
abbrev cX4_requireWaiting : ByteArray := prog_1_method_50_code
def yX4_requireWaiting : MethodName := ⟨RX4, "requireWaiting", "(LSignatory$Deed;)V"⟩
abbrev cX4_requireLackingPower : ByteArray := prog_1_method_51_code
def yX4_requireLackingPower : MethodName := ⟨RX4, "requireLackingPower", "(LSignatory$Deed;)V"⟩
abbrev cX4_tell : ByteArray := prog_1_method_52_code
def yX4_tell : MethodName := ⟨RX4, "tell", "(III)V"⟩
abbrev cX4_lookBack : ByteArray := prog_1_method_53_code
def yX4_lookBack : MethodName := ⟨RX4, "lookBack", "(II)V"⟩
abbrev cX4_bitOfHand : ByteArray := prog_1_method_54_code
def yX4_bitOfHand : MethodName := ⟨RX4, "bitOfHand", "(C)I"⟩
abbrev cX4_keepPower : ByteArray := prog_1_method_55_code
def yX4_keepPower : MethodName := ⟨RX4, "keepPower", "(LSignatory$Power;I)I"⟩
abbrev cX4_countPowersFrom : ByteArray := prog_1_method_56_code
def yX4_countPowersFrom : MethodName := ⟨RX4, "countPowersFrom", "(LSignatory$Power;)I"⟩
abbrev cX4_substituteOrNone : ByteArray := prog_1_method_57_code
def yX4_substituteOrNone : MethodName := ⟨RX4, "substituteOrNone", "(I)I"⟩
abbrev cX4_handsOf : ByteArray := prog_1_method_58_code
def yX4_handsOf : MethodName := ⟨RX4, "handsOf", "(IIILSignatory$Moment;)I"⟩
abbrev cX4_signsAlone : ByteArray := prog_1_method_59_code
def yX4_signsAlone : MethodName := ⟨RX4, "signsAlone", "(IIILSignatory$Moment;)Z"⟩
abbrev cX4_signTwo : ByteArray := prog_1_method_60_code
def yX4_signTwo : MethodName := ⟨RX4, "signTwo", "(IIII)Z"⟩
abbrev cX4_suffice : ByteArray := prog_1_method_61_code
def yX4_suffice : MethodName := ⟨RX4, "suffice", "(II)Z"⟩
abbrev cX4_pairsAmong : ByteArray := prog_1_method_62_code
def yX4_pairsAmong : MethodName := ⟨RX4, "pairsAmong", "(I)I"⟩
abbrev cX4_keepDeed : ByteArray := prog_1_method_63_code
def yX4_keepDeed : MethodName := ⟨RX4, "keepDeed", "(LSignatory$Deed;)I"⟩
abbrev cX4_addUp : ByteArray := prog_1_method_64_code
def yX4_addUp : MethodName := ⟨RX4, "addUp", "(LSignatory$Deed;LSignatory$Moment;)I"⟩
abbrev cX4_signersSuffice : ByteArray := prog_1_method_65_code
def yX4_signersSuffice : MethodName := ⟨RX4, "signersSuffice", "(LSignatory$Deed;ILSignatory$Moment;)Z"⟩
abbrev cX4_findLack : ByteArray := prog_1_method_66_code
def yX4_findLack : MethodName := ⟨RX4, "findLack", "(LSignatory$Deed;)V"⟩
abbrev cX4_signersActBy : ByteArray := prog_1_method_67_code
def yX4_signersActBy : MethodName := ⟨RX4, "signersActBy", "(LSignatory$Power;LSignatory$Deed;)Z"⟩
abbrev cX4_noteLack : ByteArray := prog_1_method_68_code
def yX4_noteLack : MethodName := ⟨RX4, "noteLack", "(LSignatory$Deed;LSignatory$Power;)V"⟩
abbrev cX4_countWaiting : ByteArray := prog_1_method_69_code
def yX4_countWaiting : MethodName := ⟨RX4, "countWaiting", "()I"⟩
def RX5 : String := "SignatoryModel"
def TX5 : u_T := fun k => match k with
  | 0 => ("SignatoryModel", "isAbsent", "[Z", true)
  | 1 => ("SignatoryModel", "isRevoked", "[Z", true)
  | 2 => ("SignatoryModel", "substitute", "[I", true)
  | 3 => ("SignatoryModel", "holder", "[I", true)
  | 4 => ("SignatoryModel", "kind", "[I", true)
  | 5 => ("SignatoryModel", "limit", "[I", true)
  | 6 => ("SignatoryModel", "first", "[I", true)
  | 7 => ("SignatoryModel", "last", "[I", true)
  | 8 => ("SignatoryModel", "source", "[I", true)
  | 9 => ("SignatoryModel", "hand", "[C", true)
  | 10 => ("SignatoryModel", "deedKind", "[I", true)
  | 11 => ("SignatoryModel", "amount", "[I", true)
  | 12 => ("SignatoryModel", "party", "[I", true)
  | 13 => ("SignatoryModel", "day", "[I", true)
  | 14 => ("SignatoryModel", "sum", "[I", true)
  | 15 => ("SignatoryModel", "lackPower", "[I", true)
  | 16 => ("SignatoryModel", "lackDepth", "[I", true)
  | 17 => ("SignatoryModel", "status", "[C", true)
  | 18 => ("SignatoryModel", "lack", "[C", true)
  | 19 => ("SignatoryModel", "persons", "I", false)
  | 20 => ("SignatoryModel", "powers", "I", false)
  | 21 => ("SignatoryModel", "deeds", "I", false)
  | 22 => ("SignatoryModel", "today", "I", false)
  | 23 => ("SignatoryModel", "window", "I", false)
  | 24 => ("SignatoryModel", "depth", "I", false)
  | _ => ("SignatoryModel", "thrown", "I", false)
def tyX5 : Nat → FieldType := fun k => match k with
  | 0 => .array .boolean
  | 1 => .array .boolean
  | 2 => .array .int
  | 3 => .array .int
  | 4 => .array .int
  | 5 => .array .int
  | 6 => .array .int
  | 7 => .array .int
  | 8 => .array .int
  | 9 => .array .char
  | 10 => .array .int
  | 11 => .array .int
  | 12 => .array .int
  | 13 => .array .int
  | 14 => .array .int
  | 15 => .array .int
  | 16 => .array .int
  | 17 => .array .char
  | 18 => .array .char
  | 19 => .int
  | 20 => .int
  | 21 => .int
  | 22 => .int
  | 23 => .int
  | 24 => .int
  | _ => .int
theorem nmX5 : ∀ a, a < 26 → ∀ b, b < 26 → a ≠ b → (TX5 a).2.1 ≠ (TX5 b).2.1 := by decide +kernel
theorem tyX5_ok : ∀ k, k < 26 → parseFieldDescriptor (TX5 k).2.2.1 = some (tyX5 k) := by decide +kernel
abbrev cX5_init : ByteArray := prog_7_method_1_code
def yX5_init : MethodName := ⟨RX5, "<init>", "()V"⟩
abbrev cX5_thrown : ByteArray := prog_7_method_2_code
def yX5_thrown : MethodName := ⟨RX5, "thrown", "()I"⟩
abbrev cX5_isIn : ByteArray := prog_7_method_3_code
def yX5_isIn : MethodName := ⟨RX5, "isIn", "(III)Z"⟩
abbrev cX5_isThrown : ByteArray := prog_7_method_4_code
def yX5_isThrown : MethodName := ⟨RX5, "isThrown", "(ZI)Z"⟩
abbrev cX5_isNobody : ByteArray := prog_7_method_5_code
def yX5_isNobody : MethodName := ⟨RX5, "isNobody", "(I)Z"⟩
abbrev cX5_isNoPower : ByteArray := prog_7_method_6_code
def yX5_isNoPower : MethodName := ⟨RX5, "isNoPower", "(I)Z"⟩
abbrev cX5_isNoDeed : ByteArray := prog_7_method_7_code
def yX5_isNoDeed : MethodName := ⟨RX5, "isNoDeed", "(I)Z"⟩
abbrev cX5_addPerson : ByteArray := prog_7_method_8_code
def yX5_addPerson : MethodName := ⟨RX5, "addPerson", "()I"⟩
abbrev cX5_leave : ByteArray := prog_7_method_9_code
def yX5_leave : MethodName := ⟨RX5, "leave", "(II)I"⟩
abbrev cX5_comeBack : ByteArray := prog_7_method_10_code
def yX5_comeBack : MethodName := ⟨RX5, "comeBack", "(I)I"⟩
abbrev cX5_acts : ByteArray := prog_7_method_11_code
def yX5_acts : MethodName := ⟨RX5, "acts", "(II)Z"⟩
abbrev cX5_actsFor : ByteArray := prog_7_method_12_code
def yX5_actsFor : MethodName := ⟨RX5, "actsFor", "(II)Z"⟩
abbrev cX5_isPower : ByteArray := prog_7_method_13_code
def yX5_isPower : MethodName := ⟨RX5, "isPower", "(III)Z"⟩
abbrev cX5_adds : ByteArray := prog_7_method_14_code
def yX5_adds : MethodName := ⟨RX5, "adds", "(IICIIII)I"⟩
abbrev cX5_grant : ByteArray := prog_7_method_15_code
def yX5_grant : MethodName := ⟨RX5, "grant", "(IICIII)I"⟩
abbrev cX5_delegate : ByteArray := prog_7_method_16_code
def yX5_delegate : MethodName := ⟨RX5, "delegate", "(IIIII)I"⟩
abbrev cX5_lower : ByteArray := prog_7_method_17_code
def yX5_lower : MethodName := ⟨RX5, "lower", "(II)I"⟩
abbrev cX5_comesFrom : ByteArray := prog_7_method_18_code
def yX5_comesFrom : MethodName := ⟨RX5, "comesFrom", "(II)Z"⟩
abbrev cX5_revoke : ByteArray := prog_7_method_19_code
def yX5_revoke : MethodName := ⟨RX5, "revoke", "(I)I"⟩
abbrev cX5_source : ByteArray := prog_7_method_20_code
def yX5_source : MethodName := ⟨RX5, "source", "(I)I"⟩
abbrev cX5_limit : ByteArray := prog_7_method_21_code
def yX5_limit : MethodName := ⟨RX5, "limit", "(I)I"⟩
abbrev cX5_faulty : ByteArray := prog_7_method_22_code
def yX5_faulty : MethodName := ⟨RX5, "faulty", "(II)C"⟩
abbrev cX5_isNoSum : ByteArray := prog_7_method_23_code
def yX5_isNoSum : MethodName := ⟨RX5, "isNoSum", "(II)Z"⟩
abbrev cX5_fault : ByteArray := prog_7_method_24_code
def yX5_fault : MethodName := ⟨RX5, "fault", "(II)C"⟩
abbrev cX5_faultDepth : ByteArray := prog_7_method_25_code
def yX5_faultDepth : MethodName := ⟨RX5, "faultDepth", "(II)I"⟩
abbrev cX5_reach : ByteArray := prog_7_method_26_code
def yX5_reach : MethodName := ⟨RX5, "reach", "(I)I"⟩
abbrev cX5_has : ByteArray := prog_7_method_27_code
def yX5_has : MethodName := ⟨RX5, "has", "(IICI)Z"⟩
abbrev cX5_canTogether : ByteArray := prog_7_method_28_code
def yX5_canTogether : MethodName := ⟨RX5, "canTogether", "(IIII)Z"⟩
abbrev cX5_isNoAsk : ByteArray := prog_7_method_29_code
def yX5_isNoAsk : MethodName := ⟨RX5, "isNoAsk", "(III)Z"⟩
abbrev cX5_canSign : ByteArray := prog_7_method_30_code
def yX5_canSign : MethodName := ⟨RX5, "canSign", "(III)Z"⟩
abbrev cX5_canSignTogether : ByteArray := prog_7_method_31_code
def yX5_canSignTogether : MethodName := ⟨RX5, "canSignTogether", "(IIII)Z"⟩
abbrev cX5_signers : ByteArray := prog_7_method_32_code
def yX5_signers : MethodName := ⟨RX5, "signers", "(II)I"⟩
abbrev cX5_pairs : ByteArray := prog_7_method_33_code
def yX5_pairs : MethodName := ⟨RX5, "pairs", "(II)I"⟩
abbrev cX5_pairsByTrying : ByteArray := prog_7_method_34_code
def yX5_pairsByTrying : MethodName := ⟨RX5, "pairsByTrying", "(II)I"⟩
abbrev cX5_added : ByteArray := prog_7_method_35_code
def yX5_added : MethodName := ⟨RX5, "added", "(III)I"⟩
abbrev cX5_order : ByteArray := prog_7_method_36_code
def yX5_order : MethodName := ⟨RX5, "order", "(C)I"⟩
abbrev cX5_lacks : ByteArray := prog_7_method_37_code
def yX5_lacks : MethodName := ⟨RX5, "lacks", "(III)V"⟩
abbrev cX5_signed : ByteArray := prog_7_method_38_code
def yX5_signed : MethodName := ⟨RX5, "signed", "(IIIII)I"⟩
abbrev cX5_isNoDeed_ : ByteArray := prog_7_method_39_code
def yX5_isNoDeed_ : MethodName := ⟨RX5, "isNoDeed", "(III)Z"⟩
abbrev cX5_sign : ByteArray := prog_7_method_40_code
def yX5_sign : MethodName := ⟨RX5, "sign", "(IIII)I"⟩
abbrev cX5_signTogether : ByteArray := prog_7_method_41_code
def yX5_signTogether : MethodName := ⟨RX5, "signTogether", "(IIIII)I"⟩
abbrev cX5_ratify : ByteArray := prog_7_method_42_code
def yX5_ratify : MethodName := ⟨RX5, "ratify", "(II)I"⟩
abbrev cX5_annul : ByteArray := prog_7_method_43_code
def yX5_annul : MethodName := ⟨RX5, "annul", "(I)I"⟩
abbrev cX5_status : ByteArray := prog_7_method_44_code
def yX5_status : MethodName := ⟨RX5, "status", "(I)C"⟩
abbrev cX5_sum : ByteArray := prog_7_method_45_code
def yX5_sum : MethodName := ⟨RX5, "sum", "(I)I"⟩
abbrev cX5_sumByPapers : ByteArray := prog_7_method_46_code
def yX5_sumByPapers : MethodName := ⟨RX5, "sumByPapers", "(I)I"⟩
abbrev cX5_isGood : ByteArray := prog_7_method_47_code
def yX5_isGood : MethodName := ⟨RX5, "isGood", "(I)Z"⟩
abbrev cX5_stands : ByteArray := prog_7_method_48_code
def yX5_stands : MethodName := ⟨RX5, "stands", "(I)Z"⟩
abbrev cX5_standsByPapers : ByteArray := prog_7_method_49_code
def yX5_standsByPapers : MethodName := ⟨RX5, "standsByPapers", "(I)Z"⟩
abbrev cX5_lack : ByteArray := prog_7_method_50_code
def yX5_lack : MethodName := ⟨RX5, "lack", "(I)C"⟩
abbrev cX5_lackPower : ByteArray := prog_7_method_51_code
def yX5_lackPower : MethodName := ⟨RX5, "lackPower", "(I)I"⟩
abbrev cX5_lackDepth : ByteArray := prog_7_method_52_code
def yX5_lackDepth : MethodName := ⟨RX5, "lackDepth", "(I)I"⟩
abbrev cX5_setWindow : ByteArray := prog_7_method_53_code
def yX5_setWindow : MethodName := ⟨RX5, "setWindow", "(I)I"⟩
abbrev cX5_pass : ByteArray := prog_7_method_54_code
def yX5_pass : MethodName := ⟨RX5, "pass", "(I)I"⟩
abbrev cX5_today : ByteArray := prog_7_method_55_code
def yX5_today : MethodName := ⟨RX5, "today", "()I"⟩
abbrev cX5_bound : ByteArray := prog_7_method_56_code
def yX5_bound : MethodName := ⟨RX5, "bound", "()J"⟩
abbrev cX5_standingShare : ByteArray := prog_7_method_57_code
def yX5_standingShare : MethodName := ⟨RX5, "standingShare", "()F"⟩
def RJx145de : String := "java/io/Serializable"
def TJx145de : u_T := fun k => match k with
  | _ => ("", "", "", false)
def tyJx145de : Nat → FieldType := fun k => match k with
  | _ => .int
theorem nmJx145de : ∀ a, a < 0 → ∀ b, b < 0 → a ≠ b → (TJx145de a).2.1 ≠ (TJx145de b).2.1 := by decide +kernel
theorem tyJx145de_ok : ∀ k, k < 0 → parseFieldDescriptor (TJx145de k).2.2.1 = some (tyJx145de k) := by decide +kernel
def RJx9f9b0 : String := "java/lang/CharSequence"
def TJx9f9b0 : u_T := fun k => match k with
  | _ => ("", "", "", false)
def tyJx9f9b0 : Nat → FieldType := fun k => match k with
  | _ => .int
theorem nmJx9f9b0 : ∀ a, a < 0 → ∀ b, b < 0 → a ≠ b → (TJx9f9b0 a).2.1 ≠ (TJx9f9b0 b).2.1 := by decide +kernel
theorem tyJx9f9b0_ok : ∀ k, k < 0 → parseFieldDescriptor (TJx9f9b0 k).2.2.1 = some (tyJx9f9b0 k) := by decide +kernel
def RJ11 : String := "java/lang/Character"
def TJ11 : u_T := fun k => match k with
  | _ => ("", "", "", false)
def tyJ11 : Nat → FieldType := fun k => match k with
  | _ => .int
theorem nmJ11 : ∀ a, a < 0 → ∀ b, b < 0 → a ≠ b → (TJ11 a).2.1 ≠ (TJ11 b).2.1 := by decide +kernel
theorem tyJ11_ok : ∀ k, k < 0 → parseFieldDescriptor (TJ11 k).2.2.1 = some (tyJ11 k) := by decide +kernel
abbrev cJ11_isValidCodePoint_9a6ad : ByteArray := prog_10_method_11_code
def yJ11_isValidCodePoint_9a6ad : MethodName := ⟨RJ11, "isValidCodePoint", "(I)Z"⟩
abbrev cJ11_highSurrogate_5068e : ByteArray := prog_10_method_28_code
def yJ11_highSurrogate_5068e : MethodName := ⟨RJ11, "highSurrogate", "(I)C"⟩
abbrev cJ11_lowSurrogate_5068e : ByteArray := prog_10_method_29_code
def yJ11_lowSurrogate_5068e : MethodName := ⟨RJ11, "lowSurrogate", "(I)C"⟩
def RJx8e188 : String := "java/lang/Cloneable"
def TJx8e188 : u_T := fun k => match k with
  | _ => ("", "", "", false)
def tyJx8e188 : Nat → FieldType := fun k => match k with
  | _ => .int
theorem nmJx8e188 : ∀ a, a < 0 → ∀ b, b < 0 → a ≠ b → (TJx8e188 a).2.1 ≠ (TJx8e188 b).2.1 := by decide +kernel
theorem tyJx8e188_ok : ∀ k, k < 0 → parseFieldDescriptor (TJx8e188 k).2.2.1 = some (tyJx8e188 k) := by decide +kernel
def RJxb160c : String := "java/lang/Comparable"
def TJxb160c : u_T := fun k => match k with
  | _ => ("", "", "", false)
def tyJxb160c : Nat → FieldType := fun k => match k with
  | _ => .int
theorem nmJxb160c : ∀ a, a < 0 → ∀ b, b < 0 → a ≠ b → (TJxb160c a).2.1 ≠ (TJxb160c b).2.1 := by decide +kernel
theorem tyJxb160c_ok : ∀ k, k < 0 → parseFieldDescriptor (TJxb160c k).2.2.1 = some (tyJxb160c k) := by decide +kernel
def RJxab1ab : String := "java/lang/Iterable"
def TJxab1ab : u_T := fun k => match k with
  | _ => ("", "", "", false)
def tyJxab1ab : Nat → FieldType := fun k => match k with
  | _ => .int
theorem nmJxab1ab : ∀ a, a < 0 → ∀ b, b < 0 → a ≠ b → (TJxab1ab a).2.1 ≠ (TJxab1ab b).2.1 := by decide +kernel
theorem tyJxab1ab_ok : ∀ k, k < 0 → parseFieldDescriptor (TJxab1ab k).2.2.1 = some (tyJxab1ab k) := by decide +kernel
def RJ9 : String := "java/lang/Math"
def TJ9 : u_T := fun k => match k with
  | _ => ("", "", "", false)
def tyJ9 : Nat → FieldType := fun k => match k with
  | _ => .int
theorem nmJ9 : ∀ a, a < 0 → ∀ b, b < 0 → a ≠ b → (TJ9 a).2.1 ≠ (TJ9 b).2.1 := by decide +kernel
theorem tyJ9_ok : ∀ k, k < 0 → parseFieldDescriptor (TJ9 k).2.2.1 = some (tyJ9 k) := by decide +kernel
abbrev cJ9_max_7cf53 : ByteArray := prog_18_method_65_code
def yJ9_max_7cf53 : MethodName := ⟨RJ9, "max", "(II)I"⟩
abbrev cJ9_min_7cf53 : ByteArray := prog_18_method_69_code
def yJ9_min_7cf53 : MethodName := ⟨RJ9, "min", "(II)I"⟩
def RJ0 : String := "java/lang/String"
def TJ0 : u_T := fun k => match k with
  | _ => ("", "", "", false)
def tyJ0 : Nat → FieldType := fun k => match k with
  | _ => .int
theorem nmJ0 : ∀ a, a < 0 → ∀ b, b < 0 → a ≠ b → (TJ0 a).2.1 ≠ (TJ0 b).2.1 := by decide +kernel
theorem tyJ0_ok : ∀ k, k < 0 → parseFieldDescriptor (TJ0 k).2.2.1 = some (tyJ0 k) := by decide +kernel
abbrev cJ0_length_8abf5 : ByteArray := prog_20_method_54_code
def yJ0_length_8abf5 : MethodName := ⟨RJ0, "length", "()I"⟩
abbrev cJ0_indexOf_0f7a4 : ByteArray := prog_20_method_79_code
def yJ0_indexOf_0f7a4 : MethodName := ⟨RJ0, "indexOf", "(I)I"⟩
abbrev cJ0_indexOf_7cf53 : ByteArray := prog_20_method_80_code
def yJ0_indexOf_7cf53 : MethodName := ⟨RJ0, "indexOf", "(II)I"⟩
abbrev cJ0_coder_7d493 : ByteArray := prog_20_method_152_code
def yJ0_coder_7d493 : MethodName := ⟨RJ0, "coder", "()B"⟩
abbrev cJ0_isLatin1_aae02 : ByteArray := prog_20_method_154_code
def yJ0_isLatin1_aae02 : MethodName := ⟨RJ0, "isLatin1", "()Z"⟩
abbrev cJ0_checkBoundsBeginEnd_23922 : ByteArray := prog_20_method_158_code
def yJ0_checkBoundsBeginEnd_23922 : MethodName := ⟨RJ0, "checkBoundsBeginEnd", "(III)V"⟩
def RJ1 : String := "java/lang/StringLatin1"
def TJ1 : u_T := fun k => match k with
  | _ => ("", "", "", false)
def tyJ1 : Nat → FieldType := fun k => match k with
  | _ => .int
theorem nmJ1 : ∀ a, a < 0 → ∀ b, b < 0 → a ≠ b → (TJ1 a).2.1 ≠ (TJ1 b).2.1 := by decide +kernel
theorem tyJ1_ok : ∀ k, k < 0 → parseFieldDescriptor (TJ1 k).2.2.1 = some (tyJ1 k) := by decide +kernel
abbrev cJ1_canEncode_9a6ad : ByteArray := prog_21_method_4_code
def yJ1_canEncode_9a6ad : MethodName := ⟨RJ1, "canEncode", "(I)Z"⟩
abbrev cJ1_indexOf_4cfef : ByteArray := prog_21_method_22_code
def yJ1_indexOf_4cfef : MethodName := ⟨RJ1, "indexOf", "([BIII)I"⟩
abbrev cJ1_indexOfChar_4cfef : ByteArray := prog_21_method_23_code
def yJ1_indexOfChar_4cfef : MethodName := ⟨RJ1, "indexOfChar", "([BIII)I"⟩
def RJ2 : String := "java/lang/StringUTF16"
def TJ2 : u_T := fun k => match k with
  | _ => ("", "", "", false)
def tyJ2 : Nat → FieldType := fun k => match k with
  | _ => .int
theorem nmJ2 : ∀ a, a < 0 → ∀ b, b < 0 → a ≠ b → (TJ2 a).2.1 ≠ (TJ2 b).2.1 := by decide +kernel
theorem tyJ2_ok : ∀ k, k < 0 → parseFieldDescriptor (TJ2 k).2.2.1 = some (tyJ2 k) := by decide +kernel
abbrev cJ2_getChar_3b067 : ByteArray := prog_22_method_5_code
def yJ2_getChar_3b067 : MethodName := ⟨RJ2, "getChar", "([BI)C"⟩
abbrev cJ2_length_9d52b : ByteArray := prog_22_method_6_code
def yJ2_length_9d52b : MethodName := ⟨RJ2, "length", "([B)I"⟩
abbrev cJ2_indexOf_4cfef : ByteArray := prog_22_method_40_code
def yJ2_indexOf_4cfef : MethodName := ⟨RJ2, "indexOf", "([BIII)I"⟩
abbrev cJ2_indexOfChar_4cfef : ByteArray := prog_22_method_47_code
def yJ2_indexOfChar_4cfef : MethodName := ⟨RJ2, "indexOfChar", "([BIII)I"⟩
abbrev cJ2_indexOfCharUnsafe_4cfef : ByteArray := prog_22_method_48_code
def yJ2_indexOfCharUnsafe_4cfef : MethodName := ⟨RJ2, "indexOfCharUnsafe", "([BIII)I"⟩
abbrev cJ2_indexOfSupplementary_4cfef : ByteArray := prog_22_method_49_code
def yJ2_indexOfSupplementary_4cfef : MethodName := ⟨RJ2, "indexOfSupplementary", "([BIII)I"⟩
abbrev cJ2_checkBoundsBeginEnd_d044e : ByteArray := prog_22_method_93_code
def yJ2_checkBoundsBeginEnd_d044e : MethodName := ⟨RJ2, "checkBoundsBeginEnd", "(II[B)V"⟩
def RJ10 : String := "java/lang/System"
def TJ10 : u_T := fun k => match k with
  | _ => ("", "", "", false)
def tyJ10 : Nat → FieldType := fun k => match k with
  | _ => .int
theorem nmJ10 : ∀ a, a < 0 → ∀ b, b < 0 → a ≠ b → (TJ10 a).2.1 ≠ (TJ10 b).2.1 := by decide +kernel
theorem tyJ10_ok : ∀ k, k < 0 → parseFieldDescriptor (TJ10 k).2.2.1 = some (tyJ10 k) := by decide +kernel
def RJxfd54e : String := "java/lang/constant/Constable"
def TJxfd54e : u_T := fun k => match k with
  | _ => ("", "", "", false)
def tyJxfd54e : Nat → FieldType := fun k => match k with
  | _ => .int
theorem nmJxfd54e : ∀ a, a < 0 → ∀ b, b < 0 → a ≠ b → (TJxfd54e a).2.1 ≠ (TJxfd54e b).2.1 := by decide +kernel
theorem tyJxfd54e_ok : ∀ k, k < 0 → parseFieldDescriptor (TJxfd54e k).2.2.1 = some (tyJxfd54e k) := by decide +kernel
def RJx3cf43 : String := "java/lang/constant/ConstantDesc"
def TJx3cf43 : u_T := fun k => match k with
  | _ => ("", "", "", false)
def tyJx3cf43 : Nat → FieldType := fun k => match k with
  | _ => .int
theorem nmJx3cf43 : ∀ a, a < 0 → ∀ b, b < 0 → a ≠ b → (TJx3cf43 a).2.1 ≠ (TJx3cf43 b).2.1 := by decide +kernel
theorem tyJx3cf43_ok : ∀ k, k < 0 → parseFieldDescriptor (TJx3cf43 k).2.2.1 = some (tyJx3cf43 k) := by decide +kernel
def RJxa1e45 : String := "java/util/AbstractCollection"
def TJxa1e45 : u_T := fun k => match k with
  | _ => ("", "", "", false)
def tyJxa1e45 : Nat → FieldType := fun k => match k with
  | _ => .int
theorem nmJxa1e45 : ∀ a, a < 0 → ∀ b, b < 0 → a ≠ b → (TJxa1e45 a).2.1 ≠ (TJxa1e45 b).2.1 := by decide +kernel
theorem tyJxa1e45_ok : ∀ k, k < 0 → parseFieldDescriptor (TJxa1e45 k).2.2.1 = some (tyJxa1e45 k) := by decide +kernel
abbrev cJxa1e45_init_da8c8 : ByteArray := prog_28_method_1_code
def yJxa1e45_init_da8c8 : MethodName := ⟨RJxa1e45, "<init>", "()V"⟩
def RJxc12de : String := "java/util/AbstractList"
def TJxc12de : u_T := fun k => match k with
  | _ => ("", "", "", false)
def tyJxc12de : Nat → FieldType := fun k => match k with
  | _ => .int
theorem nmJxc12de : ∀ a, a < 0 → ∀ b, b < 0 → a ≠ b → (TJxc12de a).2.1 ≠ (TJxc12de b).2.1 := by decide +kernel
theorem tyJxc12de_ok : ∀ k, k < 0 → parseFieldDescriptor (TJxc12de k).2.2.1 = some (tyJxc12de k) := by decide +kernel
abbrev cJxc12de_init_da8c8 : ByteArray := prog_29_method_1_code
def yJxc12de_init_da8c8 : MethodName := ⟨RJxc12de, "<init>", "()V"⟩
def RJx4a65c : String := "java/util/ArrayList"
def TJx4a65c : u_T := fun k => match k with
  | 0 => ("java/util/AbstractList", "modCount", "I", false)
  | 1 => ("java/util/ArrayList", "elementData", "[Ljava/lang/Object;", false)
  | _ => ("java/util/ArrayList", "size", "I", false)
def tyJx4a65c : Nat → FieldType := fun k => match k with
  | 0 => .int
  | 1 => .array (.object "java/lang/Object")
  | _ => .int
theorem nmJx4a65c : ∀ a, a < 3 → ∀ b, b < 3 → a ≠ b → (TJx4a65c a).2.1 ≠ (TJx4a65c b).2.1 := by decide +kernel
theorem tyJx4a65c_ok : ∀ k, k < 3 → parseFieldDescriptor (TJx4a65c k).2.2.1 = some (tyJx4a65c k) := by decide +kernel
abbrev cJx4a65c_init_da8c8 : ByteArray := prog_30_method_2_code
def yJx4a65c_init_da8c8 : MethodName := ⟨RJx4a65c, "<init>", "()V"⟩
abbrev cJx4a65c_grow_92f84 : ByteArray := prog_30_method_6_code
def yJx4a65c_grow_92f84 : MethodName := ⟨RJx4a65c, "grow", "(I)[Ljava/lang/Object;"⟩
abbrev cJx4a65c_grow_d5877 : ByteArray := prog_30_method_7_code
def yJx4a65c_grow_d5877 : MethodName := ⟨RJx4a65c, "grow", "()[Ljava/lang/Object;"⟩
abbrev cJx4a65c_size_8abf5 : ByteArray := prog_30_method_8_code
def yJx4a65c_size_8abf5 : MethodName := ⟨RJx4a65c, "size", "()I"⟩
abbrev cJx4a65c_elementData_915e3 : ByteArray := prog_30_method_18_code
def yJx4a65c_elementData_915e3 : MethodName := ⟨RJx4a65c, "elementData", "(I)Ljava/lang/Object;"⟩
abbrev cJx4a65c_get_915e3 : ByteArray := prog_30_method_20_code
def yJx4a65c_get_915e3 : MethodName := ⟨RJx4a65c, "get", "(I)Ljava/lang/Object;"⟩
abbrev cJx4a65c_add_72be8 : ByteArray := prog_30_method_24_code
def yJx4a65c_add_72be8 : MethodName := ⟨RJx4a65c, "add", "(Ljava/lang/Object;[Ljava/lang/Object;I)V"⟩
abbrev cJx4a65c_add_9ea2d : ByteArray := prog_30_method_25_code
def yJx4a65c_add_9ea2d : MethodName := ⟨RJx4a65c, "add", "(Ljava/lang/Object;)Z"⟩
def RJ7 : String := "java/util/Arrays"
def TJ7 : u_T := fun k => match k with
  | _ => ("", "", "", false)
def tyJ7 : Nat → FieldType := fun k => match k with
  | _ => .int
theorem nmJ7 : ∀ a, a < 0 → ∀ b, b < 0 → a ≠ b → (TJ7 a).2.1 ≠ (TJ7 b).2.1 := by decide +kernel
theorem tyJ7_ok : ∀ k, k < 0 → parseFieldDescriptor (TJ7 k).2.2.1 = some (tyJ7 k) := by decide +kernel
abbrev cJ7_copyOf_1904c : ByteArray := prog_31_method_119_code
def yJ7_copyOf_1904c : MethodName := ⟨RJ7, "copyOf", "([Ljava/lang/Object;I)[Ljava/lang/Object;"⟩
abbrev cJ7_copyOf_6403c : ByteArray := prog_31_method_120_code
def yJ7_copyOf_6403c : MethodName := ⟨RJ7, "copyOf", "([Ljava/lang/Object;ILjava/lang/Class;)[Ljava/lang/Object;"⟩
def RJx5ef63 : String := "java/util/Collection"
def TJx5ef63 : u_T := fun k => match k with
  | _ => ("", "", "", false)
def tyJx5ef63 : Nat → FieldType := fun k => match k with
  | _ => .int
theorem nmJx5ef63 : ∀ a, a < 0 → ∀ b, b < 0 → a ≠ b → (TJx5ef63 a).2.1 ≠ (TJx5ef63 b).2.1 := by decide +kernel
theorem tyJx5ef63_ok : ∀ k, k < 0 → parseFieldDescriptor (TJx5ef63 k).2.2.1 = some (tyJx5ef63 k) := by decide +kernel
def RJxbd725 : String := "java/util/List"
def TJxbd725 : u_T := fun k => match k with
  | _ => ("", "", "", false)
def tyJxbd725 : Nat → FieldType := fun k => match k with
  | _ => .int
theorem nmJxbd725 : ∀ a, a < 0 → ∀ b, b < 0 → a ≠ b → (TJxbd725 a).2.1 ≠ (TJxbd725 b).2.1 := by decide +kernel
theorem tyJxbd725_ok : ∀ k, k < 0 → parseFieldDescriptor (TJxbd725 k).2.2.1 = some (tyJxbd725 k) := by decide +kernel
def RJ15 : String := "java/util/Objects"
def TJ15 : u_T := fun k => match k with
  | _ => ("", "", "", false)
def tyJ15 : Nat → FieldType := fun k => match k with
  | _ => .int
theorem nmJ15 : ∀ a, a < 0 → ∀ b, b < 0 → a ≠ b → (TJ15 a).2.1 ≠ (TJ15 b).2.1 := by decide +kernel
theorem tyJ15_ok : ∀ k, k < 0 → parseFieldDescriptor (TJ15 k).2.2.1 = some (tyJ15 k) := by decide +kernel
abbrev cJ15_checkIndex_7cf53 : ByteArray := prog_35_method_17_code
def yJ15_checkIndex_7cf53 : MethodName := ⟨RJ15, "checkIndex", "(II)I"⟩
def RJxf0a74 : String := "java/util/RandomAccess"
def TJxf0a74 : u_T := fun k => match k with
  | _ => ("", "", "", false)
def tyJxf0a74 : Nat → FieldType := fun k => match k with
  | _ => .int
theorem nmJxf0a74 : ∀ a, a < 0 → ∀ b, b < 0 → a ≠ b → (TJxf0a74 a).2.1 ≠ (TJxf0a74 b).2.1 := by decide +kernel
theorem tyJxf0a74_ok : ∀ k, k < 0 → parseFieldDescriptor (TJxf0a74 k).2.2.1 = some (tyJxf0a74 k) := by decide +kernel
def RJxa66e6 : String := "java/util/SequencedCollection"
def TJxa66e6 : u_T := fun k => match k with
  | _ => ("", "", "", false)
def tyJxa66e6 : Nat → FieldType := fun k => match k with
  | _ => .int
theorem nmJxa66e6 : ∀ a, a < 0 → ∀ b, b < 0 → a ≠ b → (TJxa66e6 a).2.1 ≠ (TJxa66e6 b).2.1 := by decide +kernel
theorem tyJxa66e6_ok : ∀ k, k < 0 → parseFieldDescriptor (TJxa66e6 k).2.2.1 = some (tyJxa66e6 k) := by decide +kernel
def RJ8 : String := "jdk/internal/util/ArraysSupport"
def TJ8 : u_T := fun k => match k with
  | _ => ("", "", "", false)
def tyJ8 : Nat → FieldType := fun k => match k with
  | _ => .int
theorem nmJ8 : ∀ a, a < 0 → ∀ b, b < 0 → a ≠ b → (TJ8 a).2.1 ≠ (TJ8 b).2.1 := by decide +kernel
theorem tyJ8_ok : ∀ k, k < 0 → parseFieldDescriptor (TJ8 k).2.2.1 = some (tyJ8 k) := by decide +kernel
abbrev cJ8_newLength_cabcc : ByteArray := prog_38_method_27_code
def yJ8_newLength_cabcc : MethodName := ⟨RJ8, "newLength", "(III)I"⟩
abbrev cJ8_hugeLength_7cf53 : ByteArray := prog_38_method_28_code
def yJ8_hugeLength_7cf53 : MethodName := ⟨RJ8, "hugeLength", "(II)I"⟩
def RJ3 : String := "jdk/internal/util/Preconditions"
def TJ3 : u_T := fun k => match k with
  | _ => ("", "", "", false)
def tyJ3 : Nat → FieldType := fun k => match k with
  | _ => .int
theorem nmJ3 : ∀ a, a < 0 → ∀ b, b < 0 → a ≠ b → (TJ3 a).2.1 ≠ (TJ3 b).2.1 := by decide +kernel
theorem tyJ3_ok : ∀ k, k < 0 → parseFieldDescriptor (TJ3 k).2.2.1 = some (tyJ3 k) := by decide +kernel
abbrev cJ3_checkIndex_8e157 : ByteArray := prog_39_method_11_code
def yJ3_checkIndex_8e157 : MethodName := ⟨RJ3, "checkIndex", "(IILjava/util/function/BiFunction;)I"⟩
abbrev cJ3_checkFromToIndex_8c36e : ByteArray := prog_39_method_12_code
def yJ3_checkFromToIndex_8c36e : MethodName := ⟨RJ3, "checkFromToIndex", "(IIILjava/util/function/BiFunction;)I"⟩
def RL : String := "SignatoryLaw"
theorem dX0_init_0 : decode cX0_init 0 = .ok (.aload_n 0, 1) := by decide +kernel
theorem dX0_init_1 : decode cX0_init 1 = .ok (.invokespecial 3, 3) := by decide +kernel
theorem dX0_init_4 : decode cX0_init 4 = .ok (.aload_n 0, 1) := by decide +kernel
theorem dX0_init_5 : decode cX0_init 5 = .ok (.bipush 45, 2) := by decide +kernel
theorem dX0_init_7 : decode cX0_init 7 = .ok (.putfield 9, 3) := by decide +kernel
theorem dX0_init_10 : decode cX0_init 10 = .ok (.aload_n 0, 1) := by decide +kernel
theorem dX0_init_11 : decode cX0_init 11 = .ok (.iconst (-1), 1) := by decide +kernel
theorem dX0_init_12 : decode cX0_init 12 = .ok (.putfield 15, 3) := by decide +kernel
theorem dX0_init_15 : decode cX0_init 15 = .ok (.aload_n 0, 1) := by decide +kernel
theorem dX0_init_16 : decode cX0_init 16 = .ok (.iconst (-1), 1) := by decide +kernel
theorem dX0_init_17 : decode cX0_init 17 = .ok (.putfield 19, 3) := by decide +kernel
theorem dX0_init_20 : decode cX0_init 20 = .ok (.aload_n 0, 1) := by decide +kernel
theorem dX0_init_21 : decode cX0_init 21 = .ok (.iload_n 1, 1) := by decide +kernel
theorem dX0_init_22 : decode cX0_init 22 = .ok (.putfield 22, 3) := by decide +kernel
theorem dX0_init_25 : decode cX0_init 25 = .ok (.aload_n 0, 1) := by decide +kernel
theorem dX0_init_26 : decode cX0_init 26 = .ok (.iload_n 2, 1) := by decide +kernel
theorem dX0_init_27 : decode cX0_init 27 = .ok (.putfield 25, 3) := by decide +kernel
theorem dX0_init_30 : decode cX0_init 30 = .ok (.aload_n 0, 1) := by decide +kernel
theorem dX0_init_31 : decode cX0_init 31 = .ok (.iload_n 3, 1) := by decide +kernel
theorem dX0_init_32 : decode cX0_init 32 = .ok (.putfield 28, 3) := by decide +kernel
theorem dX0_init_35 : decode cX0_init 35 = .ok (.aload_n 0, 1) := by decide +kernel
theorem dX0_init_36 : decode cX0_init 36 = .ok (.iload 4, 2) := by decide +kernel
theorem dX0_init_38 : decode cX0_init 38 = .ok (.putfield 31, 3) := by decide +kernel
theorem dX0_init_41 : decode cX0_init 41 = .ok (.aload_n 0, 1) := by decide +kernel
theorem dX0_init_42 : decode cX0_init 42 = .ok (.iload 5, 2) := by decide +kernel
theorem dX0_init_44 : decode cX0_init 44 = .ok (.putfield 34, 3) := by decide +kernel
theorem dX0_init_47 : decode cX0_init 47 = .ok (.aload_n 0, 1) := by decide +kernel
theorem dX0_init_48 : decode cX0_init 48 = .ok (.iload 6, 2) := by decide +kernel
theorem dX0_init_50 : decode cX0_init 50 = .ok (.putfield 37, 3) := by decide +kernel
theorem dX0_init_53 : decode cX0_init 53 = .ok (.return_, 1) := by decide +kernel
theorem dX0_isStanding_0 : decode cX0_isStanding 0 = .ok (.aload_n 0, 1) := by decide +kernel
theorem dX0_isStanding_1 : decode cX0_isStanding 1 = .ok (.getfield 40, 3) := by decide +kernel
theorem dX0_isStanding_4 : decode cX0_isStanding 4 = .ok (.bipush 115, 2) := by decide +kernel
theorem dX0_isStanding_6 : decode cX0_isStanding 6 = .ok (.if_icmp .eq 12, 3) := by decide +kernel
theorem dX0_isStanding_9 : decode cX0_isStanding 9 = .ok (.aload_n 0, 1) := by decide +kernel
theorem dX0_isStanding_10 : decode cX0_isStanding 10 = .ok (.getfield 40, 3) := by decide +kernel
theorem dX0_isStanding_13 : decode cX0_isStanding 13 = .ok (.bipush 114, 2) := by decide +kernel
theorem dX0_isStanding_15 : decode cX0_isStanding 15 = .ok (.if_icmp .ne 7, 3) := by decide +kernel
theorem dX0_isStanding_18 : decode cX0_isStanding 18 = .ok (.iconst 1, 1) := by decide +kernel
theorem dX0_isStanding_19 : decode cX0_isStanding 19 = .ok (.goto 4, 3) := by decide +kernel
theorem dX0_isStanding_22 : decode cX0_isStanding 22 = .ok (.iconst 0, 1) := by decide +kernel
theorem dX0_isStanding_23 : decode cX0_isStanding 23 = .ok (.ireturn, 1) := by decide +kernel
theorem dX1_init_0 : decode cX1_init 0 = .ok (.aload_n 0, 1) := by decide +kernel
theorem dX1_init_1 : decode cX1_init 1 = .ok (.invokespecial 3, 3) := by decide +kernel
theorem dX1_init_4 : decode cX1_init 4 = .ok (.aload_n 0, 1) := by decide +kernel
theorem dX1_init_5 : decode cX1_init 5 = .ok (.bipush 20, 2) := by decide +kernel
theorem dX1_init_7 : decode cX1_init 7 = .ok (.newarray .int, 2) := by decide +kernel
theorem dX1_init_9 : decode cX1_init 9 = .ok (.putfield 9, 3) := by decide +kernel
theorem dX1_init_12 : decode cX1_init 12 = .ok (.aload_n 0, 1) := by decide +kernel
theorem dX1_init_13 : decode cX1_init 13 = .ok (.bipush 20, 2) := by decide +kernel
theorem dX1_init_15 : decode cX1_init 15 = .ok (.newarray .boolean, 2) := by decide +kernel
theorem dX1_init_17 : decode cX1_init 17 = .ok (.putfield 15, 3) := by decide +kernel
theorem dX1_init_20 : decode cX1_init 20 = .ok (.aload_n 0, 1) := by decide +kernel
theorem dX1_init_21 : decode cX1_init 21 = .ok (.bipush 8, 2) := by decide +kernel
theorem dX1_init_23 : decode cX1_init 23 = .ok (.newarray .int, 2) := by decide +kernel
theorem dX1_init_25 : decode cX1_init 25 = .ok (.putfield 19, 3) := by decide +kernel
theorem dX1_init_28 : decode cX1_init 28 = .ok (.aload_n 0, 1) := by decide +kernel
theorem dX1_init_29 : decode cX1_init 29 = .ok (.bipush 24, 2) := by decide +kernel
theorem dX1_init_31 : decode cX1_init 31 = .ok (.newarray .boolean, 2) := by decide +kernel
theorem dX1_init_33 : decode cX1_init 33 = .ok (.putfield 22, 3) := by decide +kernel
theorem dX1_init_36 : decode cX1_init 36 = .ok (.aload_n 0, 1) := by decide +kernel
theorem dX1_init_37 : decode cX1_init 37 = .ok (.invokevirtual 25, 3) := by decide +kernel
theorem dX1_init_40 : decode cX1_init 40 = .ok (.return_, 1) := by decide +kernel
theorem dX1_forget_0 : decode cX1_forget 0 = .ok (.iconst 0, 1) := by decide +kernel
theorem dX1_forget_1 : decode cX1_forget 1 = .ok (.istore_n 1, 1) := by decide +kernel
theorem dX1_forget_2 : decode cX1_forget 2 = .ok (.iload_n 1, 1) := by decide +kernel
theorem dX1_forget_3 : decode cX1_forget 3 = .ok (.aload_n 0, 1) := by decide +kernel
theorem dX1_forget_4 : decode cX1_forget 4 = .ok (.getfield 9, 3) := by decide +kernel
theorem dX1_forget_7 : decode cX1_forget 7 = .ok (.arraylength, 1) := by decide +kernel
theorem dX1_forget_8 : decode cX1_forget 8 = .ok (.if_icmp .ge 32, 3) := by decide +kernel
theorem dX1_forget_11 : decode cX1_forget 11 = .ok (.iload_n 1, 1) := by decide +kernel
theorem dX1_forget_12 : decode cX1_forget 12 = .ok (.aload_n 0, 1) := by decide +kernel
theorem dX1_forget_13 : decode cX1_forget 13 = .ok (.getfield 15, 3) := by decide +kernel
theorem dX1_forget_16 : decode cX1_forget 16 = .ok (.arraylength, 1) := by decide +kernel
theorem dX1_forget_17 : decode cX1_forget 17 = .ok (.if_icmp .ge 23, 3) := by decide +kernel
theorem dX1_forget_20 : decode cX1_forget 20 = .ok (.aload_n 0, 1) := by decide +kernel
theorem dX1_forget_21 : decode cX1_forget 21 = .ok (.getfield 9, 3) := by decide +kernel
theorem dX1_forget_24 : decode cX1_forget 24 = .ok (.iload_n 1, 1) := by decide +kernel
theorem dX1_forget_25 : decode cX1_forget 25 = .ok (.iconst 0, 1) := by decide +kernel
theorem dX1_forget_26 : decode cX1_forget 26 = .ok (.iastore, 1) := by decide +kernel
theorem dX1_forget_27 : decode cX1_forget 27 = .ok (.aload_n 0, 1) := by decide +kernel
theorem dX1_forget_28 : decode cX1_forget 28 = .ok (.getfield 15, 3) := by decide +kernel
theorem dX1_forget_31 : decode cX1_forget 31 = .ok (.iload_n 1, 1) := by decide +kernel
theorem dX1_forget_32 : decode cX1_forget 32 = .ok (.iconst 0, 1) := by decide +kernel
theorem dX1_forget_33 : decode cX1_forget 33 = .ok (.bastore, 1) := by decide +kernel
theorem dX1_forget_34 : decode cX1_forget 34 = .ok (.iinc 1 1, 3) := by decide +kernel
theorem dX1_forget_37 : decode cX1_forget 37 = .ok (.goto (-35), 3) := by decide +kernel
theorem dX1_forget_40 : decode cX1_forget 40 = .ok (.iconst 0, 1) := by decide +kernel
theorem dX1_forget_41 : decode cX1_forget 41 = .ok (.istore_n 1, 1) := by decide +kernel
theorem dX1_forget_42 : decode cX1_forget 42 = .ok (.iload_n 1, 1) := by decide +kernel
theorem dX1_forget_43 : decode cX1_forget 43 = .ok (.aload_n 0, 1) := by decide +kernel
theorem dX1_forget_44 : decode cX1_forget 44 = .ok (.getfield 19, 3) := by decide +kernel
theorem dX1_forget_47 : decode cX1_forget 47 = .ok (.arraylength, 1) := by decide +kernel
theorem dX1_forget_48 : decode cX1_forget 48 = .ok (.if_icmp .ge 17, 3) := by decide +kernel
theorem dX1_forget_51 : decode cX1_forget 51 = .ok (.aload_n 0, 1) := by decide +kernel
theorem dX1_forget_52 : decode cX1_forget 52 = .ok (.getfield 19, 3) := by decide +kernel
theorem dX1_forget_55 : decode cX1_forget 55 = .ok (.iload_n 1, 1) := by decide +kernel
theorem dX1_forget_56 : decode cX1_forget 56 = .ok (.bipush (-2), 2) := by decide +kernel
theorem dX1_forget_58 : decode cX1_forget 58 = .ok (.iastore, 1) := by decide +kernel
theorem dX1_forget_59 : decode cX1_forget 59 = .ok (.iinc 1 1, 3) := by decide +kernel
theorem dX1_forget_62 : decode cX1_forget 62 = .ok (.goto (-20), 3) := by decide +kernel
theorem dX1_forget_65 : decode cX1_forget 65 = .ok (.iconst 0, 1) := by decide +kernel
theorem dX1_forget_66 : decode cX1_forget 66 = .ok (.istore_n 1, 1) := by decide +kernel
theorem dX1_forget_67 : decode cX1_forget 67 = .ok (.iload_n 1, 1) := by decide +kernel
theorem dX1_forget_68 : decode cX1_forget 68 = .ok (.aload_n 0, 1) := by decide +kernel
theorem dX1_forget_69 : decode cX1_forget 69 = .ok (.getfield 22, 3) := by decide +kernel
theorem dX1_forget_72 : decode cX1_forget 72 = .ok (.arraylength, 1) := by decide +kernel
theorem dX1_forget_73 : decode cX1_forget 73 = .ok (.if_icmp .ge 16, 3) := by decide +kernel
theorem dX1_forget_76 : decode cX1_forget 76 = .ok (.aload_n 0, 1) := by decide +kernel
theorem dX1_forget_77 : decode cX1_forget 77 = .ok (.getfield 22, 3) := by decide +kernel
theorem dX1_forget_80 : decode cX1_forget 80 = .ok (.iload_n 1, 1) := by decide +kernel
theorem dX1_forget_81 : decode cX1_forget 81 = .ok (.iconst 0, 1) := by decide +kernel
theorem dX1_forget_82 : decode cX1_forget 82 = .ok (.bastore, 1) := by decide +kernel
theorem dX1_forget_83 : decode cX1_forget 83 = .ok (.iinc 1 1, 3) := by decide +kernel
theorem dX1_forget_86 : decode cX1_forget 86 = .ok (.goto (-19), 3) := by decide +kernel
theorem dX1_forget_89 : decode cX1_forget 89 = .ok (.aload_n 0, 1) := by decide +kernel
theorem dX1_forget_90 : decode cX1_forget 90 = .ok (.bipush 30, 2) := by decide +kernel
theorem dX1_forget_92 : decode cX1_forget 92 = .ok (.putfield 28, 3) := by decide +kernel
theorem dX1_forget_95 : decode cX1_forget 95 = .ok (.aload_n 0, 1) := by decide +kernel
theorem dX1_forget_96 : decode cX1_forget 96 = .ok (.iconst 0, 1) := by decide +kernel
theorem dX1_forget_97 : decode cX1_forget 97 = .ok (.putfield 32, 3) := by decide +kernel
theorem dX1_forget_100 : decode cX1_forget 100 = .ok (.return_, 1) := by decide +kernel
theorem dX1_take_0 : decode cX1_take 0 = .ok (.aload_n 1, 1) := by decide +kernel
theorem dX1_take_1 : decode cX1_take 1 = .ok (.getfield 35, 3) := by decide +kernel
theorem dX1_take_4 : decode cX1_take 4 = .ok (.istore_n 2, 1) := by decide +kernel
theorem dX1_take_5 : decode cX1_take 5 = .ok (.aload_n 1, 1) := by decide +kernel
theorem dX1_take_6 : decode cX1_take 6 = .ok (.getfield 40, 3) := by decide +kernel
theorem dX1_take_9 : decode cX1_take 9 = .ok (.ifCond .ne 28, 3) := by decide +kernel
theorem dX1_take_12 : decode cX1_take 12 = .ok (.iload_n 2, 1) := by decide +kernel
theorem dX1_take_13 : decode cX1_take 13 = .ok (.aload_n 0, 1) := by decide +kernel
theorem dX1_take_14 : decode cX1_take 14 = .ok (.getfield 9, 3) := by decide +kernel
theorem dX1_take_17 : decode cX1_take 17 = .ok (.arraylength, 1) := by decide +kernel
theorem dX1_take_18 : decode cX1_take 18 = .ok (.invokestatic 43, 3) := by decide +kernel
theorem dX1_take_21 : decode cX1_take 21 = .ok (.ifCond .eq 16, 3) := by decide +kernel
theorem dX1_take_24 : decode cX1_take 24 = .ok (.aload_n 0, 1) := by decide +kernel
theorem dX1_take_25 : decode cX1_take 25 = .ok (.getfield 9, 3) := by decide +kernel
theorem dX1_take_28 : decode cX1_take 28 = .ok (.iload_n 2, 1) := by decide +kernel
theorem dX1_take_29 : decode cX1_take 29 = .ok (.aload_n 1, 1) := by decide +kernel
theorem dX1_take_30 : decode cX1_take 30 = .ok (.getfield 47, 3) := by decide +kernel
theorem dX1_take_33 : decode cX1_take 33 = .ok (.iastore, 1) := by decide +kernel
theorem dX1_take_34 : decode cX1_take 34 = .ok (.goto 112, 3) := by decide +kernel
theorem dX1_take_37 : decode cX1_take 37 = .ok (.aload_n 1, 1) := by decide +kernel
theorem dX1_take_38 : decode cX1_take 38 = .ok (.getfield 40, 3) := by decide +kernel
theorem dX1_take_41 : decode cX1_take 41 = .ok (.iconst 1, 1) := by decide +kernel
theorem dX1_take_42 : decode cX1_take 42 = .ok (.if_icmp .ne 25, 3) := by decide +kernel
theorem dX1_take_45 : decode cX1_take 45 = .ok (.iload_n 2, 1) := by decide +kernel
theorem dX1_take_46 : decode cX1_take 46 = .ok (.aload_n 0, 1) := by decide +kernel
theorem dX1_take_47 : decode cX1_take 47 = .ok (.getfield 15, 3) := by decide +kernel
theorem dX1_take_50 : decode cX1_take 50 = .ok (.arraylength, 1) := by decide +kernel
theorem dX1_take_51 : decode cX1_take 51 = .ok (.invokestatic 43, 3) := by decide +kernel
theorem dX1_take_54 : decode cX1_take 54 = .ok (.ifCond .eq 13, 3) := by decide +kernel
theorem dX1_take_57 : decode cX1_take 57 = .ok (.aload_n 0, 1) := by decide +kernel
theorem dX1_take_58 : decode cX1_take 58 = .ok (.getfield 15, 3) := by decide +kernel
theorem dX1_take_61 : decode cX1_take 61 = .ok (.iload_n 2, 1) := by decide +kernel
theorem dX1_take_62 : decode cX1_take 62 = .ok (.iconst 1, 1) := by decide +kernel
theorem dX1_take_63 : decode cX1_take 63 = .ok (.bastore, 1) := by decide +kernel
theorem dX1_take_64 : decode cX1_take 64 = .ok (.goto 82, 3) := by decide +kernel
theorem dX1_take_67 : decode cX1_take 67 = .ok (.aload_n 1, 1) := by decide +kernel
theorem dX1_take_68 : decode cX1_take 68 = .ok (.getfield 40, 3) := by decide +kernel
theorem dX1_take_71 : decode cX1_take 71 = .ok (.iconst 2, 1) := by decide +kernel
theorem dX1_take_72 : decode cX1_take 72 = .ok (.if_icmp .ne 28, 3) := by decide +kernel
theorem dX1_take_75 : decode cX1_take 75 = .ok (.iload_n 2, 1) := by decide +kernel
theorem dX1_take_76 : decode cX1_take 76 = .ok (.aload_n 0, 1) := by decide +kernel
theorem dX1_take_77 : decode cX1_take 77 = .ok (.getfield 19, 3) := by decide +kernel
theorem dX1_take_80 : decode cX1_take 80 = .ok (.arraylength, 1) := by decide +kernel
theorem dX1_take_81 : decode cX1_take 81 = .ok (.invokestatic 43, 3) := by decide +kernel
theorem dX1_take_84 : decode cX1_take 84 = .ok (.ifCond .eq 16, 3) := by decide +kernel
theorem dX1_take_87 : decode cX1_take 87 = .ok (.aload_n 0, 1) := by decide +kernel
theorem dX1_take_88 : decode cX1_take 88 = .ok (.getfield 19, 3) := by decide +kernel
theorem dX1_take_91 : decode cX1_take 91 = .ok (.iload_n 2, 1) := by decide +kernel
theorem dX1_take_92 : decode cX1_take 92 = .ok (.aload_n 1, 1) := by decide +kernel
theorem dX1_take_93 : decode cX1_take 93 = .ok (.getfield 47, 3) := by decide +kernel
theorem dX1_take_96 : decode cX1_take 96 = .ok (.iastore, 1) := by decide +kernel
theorem dX1_take_97 : decode cX1_take 97 = .ok (.goto 49, 3) := by decide +kernel
theorem dX1_take_100 : decode cX1_take 100 = .ok (.aload_n 1, 1) := by decide +kernel
theorem dX1_take_101 : decode cX1_take 101 = .ok (.getfield 40, 3) := by decide +kernel
theorem dX1_take_104 : decode cX1_take 104 = .ok (.iconst 3, 1) := by decide +kernel
theorem dX1_take_105 : decode cX1_take 105 = .ok (.if_icmp .ne 14, 3) := by decide +kernel
theorem dX1_take_108 : decode cX1_take 108 = .ok (.aload_n 0, 1) := by decide +kernel
theorem dX1_take_109 : decode cX1_take 109 = .ok (.aload_n 1, 1) := by decide +kernel
theorem dX1_take_110 : decode cX1_take 110 = .ok (.getfield 47, 3) := by decide +kernel
theorem dX1_take_113 : decode cX1_take 113 = .ok (.putfield 28, 3) := by decide +kernel
theorem dX1_take_116 : decode cX1_take 116 = .ok (.goto 30, 3) := by decide +kernel
theorem dX1_take_119 : decode cX1_take 119 = .ok (.aload_n 1, 1) := by decide +kernel
theorem dX1_take_120 : decode cX1_take 120 = .ok (.getfield 40, 3) := by decide +kernel
theorem dX1_take_123 : decode cX1_take 123 = .ok (.iconst 4, 1) := by decide +kernel
theorem dX1_take_124 : decode cX1_take 124 = .ok (.if_icmp .ne 22, 3) := by decide +kernel
theorem dX1_take_127 : decode cX1_take 127 = .ok (.iload_n 2, 1) := by decide +kernel
theorem dX1_take_128 : decode cX1_take 128 = .ok (.aload_n 0, 1) := by decide +kernel
theorem dX1_take_129 : decode cX1_take 129 = .ok (.getfield 22, 3) := by decide +kernel
theorem dX1_take_132 : decode cX1_take 132 = .ok (.arraylength, 1) := by decide +kernel
theorem dX1_take_133 : decode cX1_take 133 = .ok (.invokestatic 43, 3) := by decide +kernel
theorem dX1_take_136 : decode cX1_take 136 = .ok (.ifCond .eq 10, 3) := by decide +kernel
theorem dX1_take_139 : decode cX1_take 139 = .ok (.aload_n 0, 1) := by decide +kernel
theorem dX1_take_140 : decode cX1_take 140 = .ok (.getfield 22, 3) := by decide +kernel
theorem dX1_take_143 : decode cX1_take 143 = .ok (.iload_n 2, 1) := by decide +kernel
theorem dX1_take_144 : decode cX1_take 144 = .ok (.iconst 1, 1) := by decide +kernel
theorem dX1_take_145 : decode cX1_take 145 = .ok (.bastore, 1) := by decide +kernel
theorem dX1_take_146 : decode cX1_take 146 = .ok (.return_, 1) := by decide +kernel
theorem dX1_limitOf_0 : decode cX1_limitOf 0 = .ok (.aload_n 1, 1) := by decide +kernel
theorem dX1_limitOf_1 : decode cX1_limitOf 1 = .ok (.getfield 50, 3) := by decide +kernel
theorem dX1_limitOf_4 : decode cX1_limitOf 4 = .ok (.istore_n 2, 1) := by decide +kernel
theorem dX1_limitOf_5 : decode cX1_limitOf 5 = .ok (.iload_n 2, 1) := by decide +kernel
theorem dX1_limitOf_6 : decode cX1_limitOf 6 = .ok (.ifCond .lt 21, 3) := by decide +kernel
theorem dX1_limitOf_9 : decode cX1_limitOf 9 = .ok (.iload_n 2, 1) := by decide +kernel
theorem dX1_limitOf_10 : decode cX1_limitOf 10 = .ok (.aload_n 0, 1) := by decide +kernel
theorem dX1_limitOf_11 : decode cX1_limitOf 11 = .ok (.getfield 9, 3) := by decide +kernel
theorem dX1_limitOf_14 : decode cX1_limitOf 14 = .ok (.arraylength, 1) := by decide +kernel
theorem dX1_limitOf_15 : decode cX1_limitOf 15 = .ok (.if_icmp .ge 12, 3) := by decide +kernel
theorem dX1_limitOf_18 : decode cX1_limitOf 18 = .ok (.aload_n 0, 1) := by decide +kernel
theorem dX1_limitOf_19 : decode cX1_limitOf 19 = .ok (.getfield 9, 3) := by decide +kernel
theorem dX1_limitOf_22 : decode cX1_limitOf 22 = .ok (.iload_n 2, 1) := by decide +kernel
theorem dX1_limitOf_23 : decode cX1_limitOf 23 = .ok (.iaload, 1) := by decide +kernel
theorem dX1_limitOf_24 : decode cX1_limitOf 24 = .ok (.goto 4, 3) := by decide +kernel
theorem dX1_limitOf_27 : decode cX1_limitOf 27 = .ok (.iconst 0, 1) := by decide +kernel
theorem dX1_limitOf_28 : decode cX1_limitOf 28 = .ok (.ireturn, 1) := by decide +kernel
theorem dX1_isRevoked_0 : decode cX1_isRevoked 0 = .ok (.aload_n 1, 1) := by decide +kernel
theorem dX1_isRevoked_1 : decode cX1_isRevoked 1 = .ok (.getfield 50, 3) := by decide +kernel
theorem dX1_isRevoked_4 : decode cX1_isRevoked 4 = .ok (.istore_n 2, 1) := by decide +kernel
theorem dX1_isRevoked_5 : decode cX1_isRevoked 5 = .ok (.iload_n 2, 1) := by decide +kernel
theorem dX1_isRevoked_6 : decode cX1_isRevoked 6 = .ok (.ifCond .lt 25, 3) := by decide +kernel
theorem dX1_isRevoked_9 : decode cX1_isRevoked 9 = .ok (.iload_n 2, 1) := by decide +kernel
theorem dX1_isRevoked_10 : decode cX1_isRevoked 10 = .ok (.aload_n 0, 1) := by decide +kernel
theorem dX1_isRevoked_11 : decode cX1_isRevoked 11 = .ok (.getfield 15, 3) := by decide +kernel
theorem dX1_isRevoked_14 : decode cX1_isRevoked 14 = .ok (.arraylength, 1) := by decide +kernel
theorem dX1_isRevoked_15 : decode cX1_isRevoked 15 = .ok (.if_icmp .ge 16, 3) := by decide +kernel
theorem dX1_isRevoked_18 : decode cX1_isRevoked 18 = .ok (.aload_n 0, 1) := by decide +kernel
theorem dX1_isRevoked_19 : decode cX1_isRevoked 19 = .ok (.getfield 15, 3) := by decide +kernel
theorem dX1_isRevoked_22 : decode cX1_isRevoked 22 = .ok (.iload_n 2, 1) := by decide +kernel
theorem dX1_isRevoked_23 : decode cX1_isRevoked 23 = .ok (.baload, 1) := by decide +kernel
theorem dX1_isRevoked_24 : decode cX1_isRevoked 24 = .ok (.ifCond .eq 7, 3) := by decide +kernel
theorem dX1_isRevoked_27 : decode cX1_isRevoked 27 = .ok (.iconst 1, 1) := by decide +kernel
theorem dX1_isRevoked_28 : decode cX1_isRevoked 28 = .ok (.goto 4, 3) := by decide +kernel
theorem dX1_isRevoked_31 : decode cX1_isRevoked 31 = .ok (.iconst 0, 1) := by decide +kernel
theorem dX1_isRevoked_32 : decode cX1_isRevoked 32 = .ok (.ireturn, 1) := by decide +kernel
theorem dX1_isAnnulled_0 : decode cX1_isAnnulled 0 = .ok (.aload_n 1, 1) := by decide +kernel
theorem dX1_isAnnulled_1 : decode cX1_isAnnulled 1 = .ok (.getfield 55, 3) := by decide +kernel
theorem dX1_isAnnulled_4 : decode cX1_isAnnulled 4 = .ok (.aload_n 0, 1) := by decide +kernel
theorem dX1_isAnnulled_5 : decode cX1_isAnnulled 5 = .ok (.getfield 22, 3) := by decide +kernel
theorem dX1_isAnnulled_8 : decode cX1_isAnnulled 8 = .ok (.arraylength, 1) := by decide +kernel
theorem dX1_isAnnulled_9 : decode cX1_isAnnulled 9 = .ok (.invokestatic 43, 3) := by decide +kernel
theorem dX1_isAnnulled_12 : decode cX1_isAnnulled 12 = .ok (.ifCond .eq 19, 3) := by decide +kernel
theorem dX1_isAnnulled_15 : decode cX1_isAnnulled 15 = .ok (.aload_n 0, 1) := by decide +kernel
theorem dX1_isAnnulled_16 : decode cX1_isAnnulled 16 = .ok (.getfield 22, 3) := by decide +kernel
theorem dX1_isAnnulled_19 : decode cX1_isAnnulled 19 = .ok (.aload_n 1, 1) := by decide +kernel
theorem dX1_isAnnulled_20 : decode cX1_isAnnulled 20 = .ok (.getfield 55, 3) := by decide +kernel
theorem dX1_isAnnulled_23 : decode cX1_isAnnulled 23 = .ok (.baload, 1) := by decide +kernel
theorem dX1_isAnnulled_24 : decode cX1_isAnnulled 24 = .ok (.ifCond .eq 7, 3) := by decide +kernel
theorem dX1_isAnnulled_27 : decode cX1_isAnnulled 27 = .ok (.iconst 1, 1) := by decide +kernel
theorem dX1_isAnnulled_28 : decode cX1_isAnnulled 28 = .ok (.goto 4, 3) := by decide +kernel
theorem dX1_isAnnulled_31 : decode cX1_isAnnulled 31 = .ok (.iconst 0, 1) := by decide +kernel
theorem dX1_isAnnulled_32 : decode cX1_isAnnulled 32 = .ok (.ireturn, 1) := by decide +kernel
theorem dX1_substituteFor_0 : decode cX1_substituteFor 0 = .ok (.iload_n 1, 1) := by decide +kernel
theorem dX1_substituteFor_1 : decode cX1_substituteFor 1 = .ok (.aload_n 0, 1) := by decide +kernel
theorem dX1_substituteFor_2 : decode cX1_substituteFor 2 = .ok (.getfield 19, 3) := by decide +kernel
theorem dX1_substituteFor_5 : decode cX1_substituteFor 5 = .ok (.arraylength, 1) := by decide +kernel
theorem dX1_substituteFor_6 : decode cX1_substituteFor 6 = .ok (.invokestatic 43, 3) := by decide +kernel
theorem dX1_substituteFor_9 : decode cX1_substituteFor 9 = .ok (.ifCond .eq 12, 3) := by decide +kernel
theorem dX1_substituteFor_12 : decode cX1_substituteFor 12 = .ok (.aload_n 0, 1) := by decide +kernel
theorem dX1_substituteFor_13 : decode cX1_substituteFor 13 = .ok (.getfield 19, 3) := by decide +kernel
theorem dX1_substituteFor_16 : decode cX1_substituteFor 16 = .ok (.iload_n 1, 1) := by decide +kernel
theorem dX1_substituteFor_17 : decode cX1_substituteFor 17 = .ok (.iaload, 1) := by decide +kernel
theorem dX1_substituteFor_18 : decode cX1_substituteFor 18 = .ok (.goto 5, 3) := by decide +kernel
theorem dX1_substituteFor_21 : decode cX1_substituteFor 21 = .ok (.bipush (-2), 2) := by decide +kernel
theorem dX1_substituteFor_23 : decode cX1_substituteFor 23 = .ok (.ireturn, 1) := by decide +kernel
theorem dX1_actsByPowersOf_0 : decode cX1_actsByPowersOf 0 = .ok (.iload_n 1, 1) := by decide +kernel
theorem dX1_actsByPowersOf_1 : decode cX1_actsByPowersOf 1 = .ok (.iload_n 2, 1) := by decide +kernel
theorem dX1_actsByPowersOf_2 : decode cX1_actsByPowersOf 2 = .ok (.if_icmp .eq 12, 3) := by decide +kernel
theorem dX1_actsByPowersOf_5 : decode cX1_actsByPowersOf 5 = .ok (.aload_n 0, 1) := by decide +kernel
theorem dX1_actsByPowersOf_6 : decode cX1_actsByPowersOf 6 = .ok (.iload_n 2, 1) := by decide +kernel
theorem dX1_actsByPowersOf_7 : decode cX1_actsByPowersOf 7 = .ok (.invokevirtual 58, 3) := by decide +kernel
theorem dX1_actsByPowersOf_10 : decode cX1_actsByPowersOf 10 = .ok (.iload_n 1, 1) := by decide +kernel
theorem dX1_actsByPowersOf_11 : decode cX1_actsByPowersOf 11 = .ok (.if_icmp .ne 7, 3) := by decide +kernel
theorem dX1_actsByPowersOf_14 : decode cX1_actsByPowersOf 14 = .ok (.iconst 1, 1) := by decide +kernel
theorem dX1_actsByPowersOf_15 : decode cX1_actsByPowersOf 15 = .ok (.goto 4, 3) := by decide +kernel
theorem dX1_actsByPowersOf_18 : decode cX1_actsByPowersOf 18 = .ok (.iconst 0, 1) := by decide +kernel
theorem dX1_actsByPowersOf_19 : decode cX1_actsByPowersOf 19 = .ok (.ireturn, 1) := by decide +kernel
theorem dX1_ownFault_0 : decode cX1_ownFault 0 = .ok (.aload_n 0, 1) := by decide +kernel
theorem dX1_ownFault_1 : decode cX1_ownFault 1 = .ok (.getfield 32, 3) := by decide +kernel
theorem dX1_ownFault_4 : decode cX1_ownFault 4 = .ok (.aload_n 1, 1) := by decide +kernel
theorem dX1_ownFault_5 : decode cX1_ownFault 5 = .ok (.getfield 62, 3) := by decide +kernel
theorem dX1_ownFault_8 : decode cX1_ownFault 8 = .ok (.aload_n 1, 1) := by decide +kernel
theorem dX1_ownFault_9 : decode cX1_ownFault 9 = .ok (.getfield 65, 3) := by decide +kernel
theorem dX1_ownFault_12 : decode cX1_ownFault 12 = .ok (.invokestatic 68, 3) := by decide +kernel
theorem dX1_ownFault_15 : decode cX1_ownFault 15 = .ok (.ifCond .ne 6, 3) := by decide +kernel
theorem dX1_ownFault_18 : decode cX1_ownFault 18 = .ok (.bipush 100, 2) := by decide +kernel
theorem dX1_ownFault_20 : decode cX1_ownFault 20 = .ok (.ireturn, 1) := by decide +kernel
theorem dX1_ownFault_21 : decode cX1_ownFault 21 = .ok (.aload_n 0, 1) := by decide +kernel
theorem dX1_ownFault_22 : decode cX1_ownFault 22 = .ok (.aload_n 1, 1) := by decide +kernel
theorem dX1_ownFault_23 : decode cX1_ownFault 23 = .ok (.invokevirtual 72, 3) := by decide +kernel
theorem dX1_ownFault_26 : decode cX1_ownFault 26 = .ok (.ifCond .eq 6, 3) := by decide +kernel
theorem dX1_ownFault_29 : decode cX1_ownFault 29 = .ok (.bipush 118, 2) := by decide +kernel
theorem dX1_ownFault_31 : decode cX1_ownFault 31 = .ok (.ireturn, 1) := by decide +kernel
theorem dX1_ownFault_32 : decode cX1_ownFault 32 = .ok (.iload_n 2, 1) := by decide +kernel
theorem dX1_ownFault_33 : decode cX1_ownFault 33 = .ok (.aload_n 0, 1) := by decide +kernel
theorem dX1_ownFault_34 : decode cX1_ownFault 34 = .ok (.aload_n 1, 1) := by decide +kernel
theorem dX1_ownFault_35 : decode cX1_ownFault 35 = .ok (.invokevirtual 76, 3) := by decide +kernel
theorem dX1_ownFault_38 : decode cX1_ownFault 38 = .ok (.if_icmp .le 8, 3) := by decide +kernel
theorem dX1_ownFault_41 : decode cX1_ownFault 41 = .ok (.bipush 108, 2) := by decide +kernel
theorem dX1_ownFault_43 : decode cX1_ownFault 43 = .ok (.goto 5, 3) := by decide +kernel
theorem dX1_ownFault_46 : decode cX1_ownFault 46 = .ok (.bipush 45, 2) := by decide +kernel
theorem dX1_ownFault_48 : decode cX1_ownFault 48 = .ok (.ireturn, 1) := by decide +kernel
theorem dX1_faultOf_0 : decode cX1_faultOf 0 = .ok (.bipush 45, 2) := by decide +kernel
theorem dX1_faultOf_2 : decode cX1_faultOf 2 = .ok (.istore_n 3, 1) := by decide +kernel
theorem dX1_faultOf_3 : decode cX1_faultOf 3 = .ok (.aload_n 1, 1) := by decide +kernel
theorem dX1_faultOf_4 : decode cX1_faultOf 4 = .ok (.astore 4, 2) := by decide +kernel
theorem dX1_faultOf_6 : decode cX1_faultOf 6 = .ok (.aload 4, 2) := by decide +kernel
theorem dX1_faultOf_8 : decode cX1_faultOf 8 = .ok (.ifnull 32, 3) := by decide +kernel
theorem dX1_faultOf_11 : decode cX1_faultOf 11 = .ok (.aload_n 0, 1) := by decide +kernel
theorem dX1_faultOf_12 : decode cX1_faultOf 12 = .ok (.aload 4, 2) := by decide +kernel
theorem dX1_faultOf_14 : decode cX1_faultOf 14 = .ok (.iload_n 2, 1) := by decide +kernel
theorem dX1_faultOf_15 : decode cX1_faultOf 15 = .ok (.invokevirtual 80, 3) := by decide +kernel
theorem dX1_faultOf_18 : decode cX1_faultOf 18 = .ok (.istore 5, 2) := by decide +kernel
theorem dX1_faultOf_20 : decode cX1_faultOf 20 = .ok (.iload 5, 2) := by decide +kernel
theorem dX1_faultOf_22 : decode cX1_faultOf 22 = .ok (.bipush 45, 2) := by decide +kernel
theorem dX1_faultOf_24 : decode cX1_faultOf 24 = .ok (.if_icmp .eq 6, 3) := by decide +kernel
theorem dX1_faultOf_27 : decode cX1_faultOf 27 = .ok (.iload 5, 2) := by decide +kernel
theorem dX1_faultOf_29 : decode cX1_faultOf 29 = .ok (.istore_n 3, 1) := by decide +kernel
theorem dX1_faultOf_30 : decode cX1_faultOf 30 = .ok (.aload 4, 2) := by decide +kernel
theorem dX1_faultOf_32 : decode cX1_faultOf 32 = .ok (.getfield 84, 3) := by decide +kernel
theorem dX1_faultOf_35 : decode cX1_faultOf 35 = .ok (.astore 4, 2) := by decide +kernel
theorem dX1_faultOf_37 : decode cX1_faultOf 37 = .ok (.goto (-31), 3) := by decide +kernel
theorem dX1_faultOf_40 : decode cX1_faultOf 40 = .ok (.iload_n 3, 1) := by decide +kernel
theorem dX1_faultOf_41 : decode cX1_faultOf 41 = .ok (.ireturn, 1) := by decide +kernel
theorem dX1_stepsToFault_0 : decode cX1_stepsToFault 0 = .ok (.iconst (-1), 1) := by decide +kernel
theorem dX1_stepsToFault_1 : decode cX1_stepsToFault 1 = .ok (.istore_n 3, 1) := by decide +kernel
theorem dX1_stepsToFault_2 : decode cX1_stepsToFault 2 = .ok (.iconst 0, 1) := by decide +kernel
theorem dX1_stepsToFault_3 : decode cX1_stepsToFault 3 = .ok (.istore 4, 2) := by decide +kernel
theorem dX1_stepsToFault_5 : decode cX1_stepsToFault 5 = .ok (.aload_n 1, 1) := by decide +kernel
theorem dX1_stepsToFault_6 : decode cX1_stepsToFault 6 = .ok (.astore 5, 2) := by decide +kernel
theorem dX1_stepsToFault_8 : decode cX1_stepsToFault 8 = .ok (.aload 5, 2) := by decide +kernel
theorem dX1_stepsToFault_10 : decode cX1_stepsToFault 10 = .ok (.ifnull 31, 3) := by decide +kernel
theorem dX1_stepsToFault_13 : decode cX1_stepsToFault 13 = .ok (.aload_n 0, 1) := by decide +kernel
theorem dX1_stepsToFault_14 : decode cX1_stepsToFault 14 = .ok (.aload 5, 2) := by decide +kernel
theorem dX1_stepsToFault_16 : decode cX1_stepsToFault 16 = .ok (.iload_n 2, 1) := by decide +kernel
theorem dX1_stepsToFault_17 : decode cX1_stepsToFault 17 = .ok (.invokevirtual 80, 3) := by decide +kernel
theorem dX1_stepsToFault_20 : decode cX1_stepsToFault 20 = .ok (.bipush 45, 2) := by decide +kernel
theorem dX1_stepsToFault_22 : decode cX1_stepsToFault 22 = .ok (.if_icmp .eq 6, 3) := by decide +kernel
theorem dX1_stepsToFault_25 : decode cX1_stepsToFault 25 = .ok (.iload 4, 2) := by decide +kernel
theorem dX1_stepsToFault_27 : decode cX1_stepsToFault 27 = .ok (.istore_n 3, 1) := by decide +kernel
theorem dX1_stepsToFault_28 : decode cX1_stepsToFault 28 = .ok (.iinc 4 1, 3) := by decide +kernel
theorem dX1_stepsToFault_31 : decode cX1_stepsToFault 31 = .ok (.aload 5, 2) := by decide +kernel
theorem dX1_stepsToFault_33 : decode cX1_stepsToFault 33 = .ok (.getfield 84, 3) := by decide +kernel
theorem dX1_stepsToFault_36 : decode cX1_stepsToFault 36 = .ok (.astore 5, 2) := by decide +kernel
theorem dX1_stepsToFault_38 : decode cX1_stepsToFault 38 = .ok (.goto (-30), 3) := by decide +kernel
theorem dX1_stepsToFault_41 : decode cX1_stepsToFault 41 = .ok (.iload_n 3, 1) := by decide +kernel
theorem dX1_stepsToFault_42 : decode cX1_stepsToFault 42 = .ok (.ireturn, 1) := by decide +kernel
theorem dX1_reachOf_0 : decode cX1_reachOf 0 = .ok (.aload_n 0, 1) := by decide +kernel
theorem dX1_reachOf_1 : decode cX1_reachOf 1 = .ok (.aload_n 1, 1) := by decide +kernel
theorem dX1_reachOf_2 : decode cX1_reachOf 2 = .ok (.iconst 1, 1) := by decide +kernel
theorem dX1_reachOf_3 : decode cX1_reachOf 3 = .ok (.invokevirtual 88, 3) := by decide +kernel
theorem dX1_reachOf_6 : decode cX1_reachOf 6 = .ok (.bipush 45, 2) := by decide +kernel
theorem dX1_reachOf_8 : decode cX1_reachOf 8 = .ok (.if_icmp .eq 5, 3) := by decide +kernel
theorem dX1_reachOf_11 : decode cX1_reachOf 11 = .ok (.iconst 0, 1) := by decide +kernel
theorem dX1_reachOf_12 : decode cX1_reachOf 12 = .ok (.ireturn, 1) := by decide +kernel
theorem dX1_reachOf_13 : decode cX1_reachOf 13 = .ok (.aload_n 0, 1) := by decide +kernel
theorem dX1_reachOf_14 : decode cX1_reachOf 14 = .ok (.aload_n 1, 1) := by decide +kernel
theorem dX1_reachOf_15 : decode cX1_reachOf 15 = .ok (.invokevirtual 76, 3) := by decide +kernel
theorem dX1_reachOf_18 : decode cX1_reachOf 18 = .ok (.istore_n 2, 1) := by decide +kernel
theorem dX1_reachOf_19 : decode cX1_reachOf 19 = .ok (.aload_n 1, 1) := by decide +kernel
theorem dX1_reachOf_20 : decode cX1_reachOf 20 = .ok (.getfield 84, 3) := by decide +kernel
theorem dX1_reachOf_23 : decode cX1_reachOf 23 = .ok (.astore_n 3, 1) := by decide +kernel
theorem dX1_reachOf_24 : decode cX1_reachOf 24 = .ok (.aload_n 3, 1) := by decide +kernel
theorem dX1_reachOf_25 : decode cX1_reachOf 25 = .ok (.ifnull 21, 3) := by decide +kernel
theorem dX1_reachOf_28 : decode cX1_reachOf 28 = .ok (.iload_n 2, 1) := by decide +kernel
theorem dX1_reachOf_29 : decode cX1_reachOf 29 = .ok (.aload_n 0, 1) := by decide +kernel
theorem dX1_reachOf_30 : decode cX1_reachOf 30 = .ok (.aload_n 3, 1) := by decide +kernel
theorem dX1_reachOf_31 : decode cX1_reachOf 31 = .ok (.invokevirtual 76, 3) := by decide +kernel
theorem dX1_reachOf_34 : decode cX1_reachOf 34 = .ok (.invokestatic 91, 3) := by decide +kernel
theorem dX1_reachOf_37 : decode cX1_reachOf 37 = .ok (.istore_n 2, 1) := by decide +kernel
theorem dX1_reachOf_38 : decode cX1_reachOf 38 = .ok (.aload_n 3, 1) := by decide +kernel
theorem dX1_reachOf_39 : decode cX1_reachOf 39 = .ok (.getfield 84, 3) := by decide +kernel
theorem dX1_reachOf_42 : decode cX1_reachOf 42 = .ok (.astore_n 3, 1) := by decide +kernel
theorem dX1_reachOf_43 : decode cX1_reachOf 43 = .ok (.goto (-19), 3) := by decide +kernel
theorem dX1_reachOf_46 : decode cX1_reachOf 46 = .ok (.iload_n 2, 1) := by decide +kernel
theorem dX1_reachOf_47 : decode cX1_reachOf 47 = .ok (.ireturn, 1) := by decide +kernel
theorem dX2_init_0 : decode cX2_init 0 = .ok (.aload_n 0, 1) := by decide +kernel
theorem dX2_init_1 : decode cX2_init 1 = .ok (.invokespecial 1, 3) := by decide +kernel
theorem dX2_init_4 : decode cX2_init 4 = .ok (.aload_n 0, 1) := by decide +kernel
theorem dX2_init_5 : decode cX2_init 5 = .ok (.iload_n 1, 1) := by decide +kernel
theorem dX2_init_6 : decode cX2_init 6 = .ok (.putfield 7, 3) := by decide +kernel
theorem dX2_init_9 : decode cX2_init 9 = .ok (.aload_n 0, 1) := by decide +kernel
theorem dX2_init_10 : decode cX2_init 10 = .ok (.iload_n 2, 1) := by decide +kernel
theorem dX2_init_11 : decode cX2_init 11 = .ok (.putfield 13, 3) := by decide +kernel
theorem dX2_init_14 : decode cX2_init 14 = .ok (.aload_n 0, 1) := by decide +kernel
theorem dX2_init_15 : decode cX2_init 15 = .ok (.iload_n 3, 1) := by decide +kernel
theorem dX2_init_16 : decode cX2_init 16 = .ok (.putfield 16, 3) := by decide +kernel
theorem dX2_init_19 : decode cX2_init 19 = .ok (.return_, 1) := by decide +kernel
theorem dX3_init_0 : decode cX3_init 0 = .ok (.aload_n 0, 1) := by decide +kernel
theorem dX3_init_1 : decode cX3_init 1 = .ok (.invokespecial 1, 3) := by decide +kernel
theorem dX3_init_4 : decode cX3_init 4 = .ok (.aload_n 0, 1) := by decide +kernel
theorem dX3_init_5 : decode cX3_init 5 = .ok (.iload_n 1, 1) := by decide +kernel
theorem dX3_init_6 : decode cX3_init 6 = .ok (.putfield 7, 3) := by decide +kernel
theorem dX3_init_9 : decode cX3_init 9 = .ok (.aload_n 0, 1) := by decide +kernel
theorem dX3_init_10 : decode cX3_init 10 = .ok (.iload_n 2, 1) := by decide +kernel
theorem dX3_init_11 : decode cX3_init 11 = .ok (.putfield 13, 3) := by decide +kernel
theorem dX3_init_14 : decode cX3_init 14 = .ok (.aload_n 0, 1) := by decide +kernel
theorem dX3_init_15 : decode cX3_init 15 = .ok (.iload_n 3, 1) := by decide +kernel
theorem dX3_init_16 : decode cX3_init 16 = .ok (.putfield 16, 3) := by decide +kernel
theorem dX3_init_19 : decode cX3_init 19 = .ok (.aload_n 0, 1) := by decide +kernel
theorem dX3_init_20 : decode cX3_init 20 = .ok (.iload 4, 2) := by decide +kernel
theorem dX3_init_22 : decode cX3_init 22 = .ok (.putfield 19, 3) := by decide +kernel
theorem dX3_init_25 : decode cX3_init 25 = .ok (.aload_n 0, 1) := by decide +kernel
theorem dX3_init_26 : decode cX3_init 26 = .ok (.iload 5, 2) := by decide +kernel
theorem dX3_init_28 : decode cX3_init 28 = .ok (.putfield 22, 3) := by decide +kernel
theorem dX3_init_31 : decode cX3_init 31 = .ok (.aload_n 0, 1) := by decide +kernel
theorem dX3_init_32 : decode cX3_init 32 = .ok (.iload 6, 2) := by decide +kernel
theorem dX3_init_34 : decode cX3_init 34 = .ok (.putfield 25, 3) := by decide +kernel
theorem dX3_init_37 : decode cX3_init 37 = .ok (.aload_n 0, 1) := by decide +kernel
theorem dX3_init_38 : decode cX3_init 38 = .ok (.aload 7, 2) := by decide +kernel
theorem dX3_init_40 : decode cX3_init 40 = .ok (.putfield 28, 3) := by decide +kernel
theorem dX3_init_43 : decode cX3_init 43 = .ok (.return_, 1) := by decide +kernel
theorem dX3_comesFrom_0 : decode cX3_comesFrom 0 = .ok (.aload_n 0, 1) := by decide +kernel
theorem dX3_comesFrom_1 : decode cX3_comesFrom 1 = .ok (.astore_n 2, 1) := by decide +kernel
theorem dX3_comesFrom_2 : decode cX3_comesFrom 2 = .ok (.aload_n 2, 1) := by decide +kernel
theorem dX3_comesFrom_3 : decode cX3_comesFrom 3 = .ok (.ifnull 18, 3) := by decide +kernel
theorem dX3_comesFrom_6 : decode cX3_comesFrom 6 = .ok (.aload_n 2, 1) := by decide +kernel
theorem dX3_comesFrom_7 : decode cX3_comesFrom 7 = .ok (.aload_n 1, 1) := by decide +kernel
theorem dX3_comesFrom_8 : decode cX3_comesFrom 8 = .ok (.if_acmp .ne 5, 3) := by decide +kernel
theorem dX3_comesFrom_11 : decode cX3_comesFrom 11 = .ok (.iconst 1, 1) := by decide +kernel
theorem dX3_comesFrom_12 : decode cX3_comesFrom 12 = .ok (.ireturn, 1) := by decide +kernel
theorem dX3_comesFrom_13 : decode cX3_comesFrom 13 = .ok (.aload_n 2, 1) := by decide +kernel
theorem dX3_comesFrom_14 : decode cX3_comesFrom 14 = .ok (.getfield 28, 3) := by decide +kernel
theorem dX3_comesFrom_17 : decode cX3_comesFrom 17 = .ok (.astore_n 2, 1) := by decide +kernel
theorem dX3_comesFrom_18 : decode cX3_comesFrom 18 = .ok (.goto (-16), 3) := by decide +kernel
theorem dX3_comesFrom_21 : decode cX3_comesFrom 21 = .ok (.iconst 0, 1) := by decide +kernel
theorem dX3_comesFrom_22 : decode cX3_comesFrom 22 = .ok (.ireturn, 1) := by decide +kernel
theorem dX4_init_0 : decode cX4_init 0 = .ok (.aload_n 0, 1) := by decide +kernel
theorem dX4_init_1 : decode cX4_init 1 = .ok (.invokespecial 1, 3) := by decide +kernel
theorem dX4_init_4 : decode cX4_init 4 = .ok (.aload_n 0, 1) := by decide +kernel
theorem dX4_init_5 : decode cX4_init 5 = .ok (.new 7, 3) := by decide +kernel
theorem dX4_init_8 : decode cX4_init 8 = .ok (.dup, 1) := by decide +kernel
theorem dX4_init_9 : decode cX4_init 9 = .ok (.invokespecial 9, 3) := by decide +kernel
theorem dX4_init_12 : decode cX4_init 12 = .ok (.putfield 10, 3) := by decide +kernel
theorem dX4_init_15 : decode cX4_init 15 = .ok (.aload_n 0, 1) := by decide +kernel
theorem dX4_init_16 : decode cX4_init 16 = .ok (.new 7, 3) := by decide +kernel
theorem dX4_init_19 : decode cX4_init 19 = .ok (.dup, 1) := by decide +kernel
theorem dX4_init_20 : decode cX4_init 20 = .ok (.invokespecial 9, 3) := by decide +kernel
theorem dX4_init_23 : decode cX4_init 23 = .ok (.putfield 16, 3) := by decide +kernel
theorem dX4_init_26 : decode cX4_init 26 = .ok (.aload_n 0, 1) := by decide +kernel
theorem dX4_init_27 : decode cX4_init 27 = .ok (.new 7, 3) := by decide +kernel
theorem dX4_init_30 : decode cX4_init 30 = .ok (.dup, 1) := by decide +kernel
theorem dX4_init_31 : decode cX4_init 31 = .ok (.invokespecial 9, 3) := by decide +kernel
theorem dX4_init_34 : decode cX4_init 34 = .ok (.putfield 19, 3) := by decide +kernel
theorem dX4_init_37 : decode cX4_init 37 = .ok (.aload_n 0, 1) := by decide +kernel
theorem dX4_init_38 : decode cX4_init 38 = .ok (.new 22, 3) := by decide +kernel
theorem dX4_init_41 : decode cX4_init 41 = .ok (.dup, 1) := by decide +kernel
theorem dX4_init_42 : decode cX4_init 42 = .ok (.invokespecial 24, 3) := by decide +kernel
theorem dX4_init_45 : decode cX4_init 45 = .ok (.putfield 25, 3) := by decide +kernel
theorem dX4_init_48 : decode cX4_init 48 = .ok (.aload_n 0, 1) := by decide +kernel
theorem dX4_init_49 : decode cX4_init 49 = .ok (.new 22, 3) := by decide +kernel
theorem dX4_init_52 : decode cX4_init 52 = .ok (.dup, 1) := by decide +kernel
theorem dX4_init_53 : decode cX4_init 53 = .ok (.invokespecial 24, 3) := by decide +kernel
theorem dX4_init_56 : decode cX4_init 56 = .ok (.putfield 29, 3) := by decide +kernel
theorem dX4_init_59 : decode cX4_init 59 = .ok (.aload_n 0, 1) := by decide +kernel
theorem dX4_init_60 : decode cX4_init 60 = .ok (.iconst 0, 1) := by decide +kernel
theorem dX4_init_61 : decode cX4_init 61 = .ok (.putfield 32, 3) := by decide +kernel
theorem dX4_init_64 : decode cX4_init 64 = .ok (.return_, 1) := by decide +kernel
theorem dX4_addPerson_0 : decode cX4_addPerson 0 = .ok (.aload_n 0, 1) := by decide +kernel
theorem dX4_addPerson_1 : decode cX4_addPerson 1 = .ok (.getfield 32, 3) := by decide +kernel
theorem dX4_addPerson_4 : decode cX4_addPerson 4 = .ok (.bipush 8, 2) := by decide +kernel
theorem dX4_addPerson_6 : decode cX4_addPerson 6 = .ok (.if_icmp .lt 13, 3) := by decide +kernel
theorem dX4_addPerson_9 : decode cX4_addPerson 9 = .ok (.new 36, 3) := by decide +kernel
theorem dX4_addPerson_12 : decode cX4_addPerson 12 = .ok (.dup, 1) := by decide +kernel
theorem dX4_addPerson_13 : decode cX4_addPerson 13 = .ok (.ldc 38, 2) := by decide +kernel
theorem dX4_addPerson_15 : decode cX4_addPerson 15 = .ok (.invokespecial 40, 3) := by decide +kernel
theorem dX4_addPerson_18 : decode cX4_addPerson 18 = .ok (.athrow, 1) := by decide +kernel
theorem dX4_addPerson_19 : decode cX4_addPerson 19 = .ok (.aload_n 0, 1) := by decide +kernel
theorem dX4_addPerson_20 : decode cX4_addPerson 20 = .ok (.dup, 1) := by decide +kernel
theorem dX4_addPerson_21 : decode cX4_addPerson 21 = .ok (.getfield 32, 3) := by decide +kernel
theorem dX4_addPerson_24 : decode cX4_addPerson 24 = .ok (.iconst 1, 1) := by decide +kernel
theorem dX4_addPerson_25 : decode cX4_addPerson 25 = .ok (.iadd, 1) := by decide +kernel
theorem dX4_addPerson_26 : decode cX4_addPerson 26 = .ok (.putfield 32, 3) := by decide +kernel
theorem dX4_addPerson_29 : decode cX4_addPerson 29 = .ok (.aload_n 0, 1) := by decide +kernel
theorem dX4_addPerson_30 : decode cX4_addPerson 30 = .ok (.getfield 32, 3) := by decide +kernel
theorem dX4_addPerson_33 : decode cX4_addPerson 33 = .ok (.iconst 1, 1) := by decide +kernel
theorem dX4_addPerson_34 : decode cX4_addPerson 34 = .ok (.isub, 1) := by decide +kernel
theorem dX4_addPerson_35 : decode cX4_addPerson 35 = .ok (.ireturn, 1) := by decide +kernel
theorem dX4_leave_0 : decode cX4_leave 0 = .ok (.aload_n 0, 1) := by decide +kernel
theorem dX4_leave_1 : decode cX4_leave 1 = .ok (.iload_n 1, 1) := by decide +kernel
theorem dX4_leave_2 : decode cX4_leave 2 = .ok (.invokevirtual 43, 3) := by decide +kernel
theorem dX4_leave_5 : decode cX4_leave 5 = .ok (.iload_n 2, 1) := by decide +kernel
theorem dX4_leave_6 : decode cX4_leave 6 = .ok (.iconst (-1), 1) := by decide +kernel
theorem dX4_leave_7 : decode cX4_leave 7 = .ok (.if_icmp .eq 8, 3) := by decide +kernel
theorem dX4_leave_10 : decode cX4_leave 10 = .ok (.aload_n 0, 1) := by decide +kernel
theorem dX4_leave_11 : decode cX4_leave 11 = .ok (.iload_n 2, 1) := by decide +kernel
theorem dX4_leave_12 : decode cX4_leave 12 = .ok (.invokevirtual 43, 3) := by decide +kernel
theorem dX4_leave_15 : decode cX4_leave 15 = .ok (.iload_n 1, 1) := by decide +kernel
theorem dX4_leave_16 : decode cX4_leave 16 = .ok (.iload_n 2, 1) := by decide +kernel
theorem dX4_leave_17 : decode cX4_leave 17 = .ok (.if_icmp .ne 13, 3) := by decide +kernel
theorem dX4_leave_20 : decode cX4_leave 20 = .ok (.new 47, 3) := by decide +kernel
theorem dX4_leave_23 : decode cX4_leave 23 = .ok (.dup, 1) := by decide +kernel
theorem dX4_leave_24 : decode cX4_leave 24 = .ok (.ldc 49, 2) := by decide +kernel
theorem dX4_leave_26 : decode cX4_leave 26 = .ok (.invokespecial 51, 3) := by decide +kernel
theorem dX4_leave_29 : decode cX4_leave 29 = .ok (.athrow, 1) := by decide +kernel
theorem dX4_leave_30 : decode cX4_leave 30 = .ok (.aload_n 0, 1) := by decide +kernel
theorem dX4_leave_31 : decode cX4_leave 31 = .ok (.iload_n 1, 1) := by decide +kernel
theorem dX4_leave_32 : decode cX4_leave 32 = .ok (.invokevirtual 52, 3) := by decide +kernel
theorem dX4_leave_35 : decode cX4_leave 35 = .ok (.istore_n 3, 1) := by decide +kernel
theorem dX4_leave_36 : decode cX4_leave 36 = .ok (.aload_n 0, 1) := by decide +kernel
theorem dX4_leave_37 : decode cX4_leave 37 = .ok (.iconst 2, 1) := by decide +kernel
theorem dX4_leave_38 : decode cX4_leave 38 = .ok (.iload_n 1, 1) := by decide +kernel
theorem dX4_leave_39 : decode cX4_leave 39 = .ok (.iload_n 2, 1) := by decide +kernel
theorem dX4_leave_40 : decode cX4_leave 40 = .ok (.invokevirtual 56, 3) := by decide +kernel
theorem dX4_leave_43 : decode cX4_leave 43 = .ok (.iload_n 3, 1) := by decide +kernel
theorem dX4_leave_44 : decode cX4_leave 44 = .ok (.ireturn, 1) := by decide +kernel
theorem dX4_comeBack_0 : decode cX4_comeBack 0 = .ok (.aload_n 0, 1) := by decide +kernel
theorem dX4_comeBack_1 : decode cX4_comeBack 1 = .ok (.iload_n 1, 1) := by decide +kernel
theorem dX4_comeBack_2 : decode cX4_comeBack 2 = .ok (.invokevirtual 43, 3) := by decide +kernel
theorem dX4_comeBack_5 : decode cX4_comeBack 5 = .ok (.aload_n 0, 1) := by decide +kernel
theorem dX4_comeBack_6 : decode cX4_comeBack 6 = .ok (.getfield 25, 3) := by decide +kernel
theorem dX4_comeBack_9 : decode cX4_comeBack 9 = .ok (.iload_n 1, 1) := by decide +kernel
theorem dX4_comeBack_10 : decode cX4_comeBack 10 = .ok (.invokevirtual 60, 3) := by decide +kernel
theorem dX4_comeBack_13 : decode cX4_comeBack 13 = .ok (.bipush (-2), 2) := by decide +kernel
theorem dX4_comeBack_15 : decode cX4_comeBack 15 = .ok (.if_icmp .ne 13, 3) := by decide +kernel
theorem dX4_comeBack_18 : decode cX4_comeBack 18 = .ok (.new 36, 3) := by decide +kernel
theorem dX4_comeBack_21 : decode cX4_comeBack 21 = .ok (.dup, 1) := by decide +kernel
theorem dX4_comeBack_22 : decode cX4_comeBack 22 = .ok (.ldc 63, 2) := by decide +kernel
theorem dX4_comeBack_24 : decode cX4_comeBack 24 = .ok (.invokespecial 40, 3) := by decide +kernel
theorem dX4_comeBack_27 : decode cX4_comeBack 27 = .ok (.athrow, 1) := by decide +kernel
theorem dX4_comeBack_28 : decode cX4_comeBack 28 = .ok (.aload_n 0, 1) := by decide +kernel
theorem dX4_comeBack_29 : decode cX4_comeBack 29 = .ok (.iload_n 1, 1) := by decide +kernel
theorem dX4_comeBack_30 : decode cX4_comeBack 30 = .ok (.invokevirtual 52, 3) := by decide +kernel
theorem dX4_comeBack_33 : decode cX4_comeBack 33 = .ok (.istore_n 2, 1) := by decide +kernel
theorem dX4_comeBack_34 : decode cX4_comeBack 34 = .ok (.aload_n 0, 1) := by decide +kernel
theorem dX4_comeBack_35 : decode cX4_comeBack 35 = .ok (.iconst 2, 1) := by decide +kernel
theorem dX4_comeBack_36 : decode cX4_comeBack 36 = .ok (.iload_n 1, 1) := by decide +kernel
theorem dX4_comeBack_37 : decode cX4_comeBack 37 = .ok (.bipush (-2), 2) := by decide +kernel
theorem dX4_comeBack_39 : decode cX4_comeBack 39 = .ok (.invokevirtual 56, 3) := by decide +kernel
theorem dX4_comeBack_42 : decode cX4_comeBack 42 = .ok (.iload_n 2, 1) := by decide +kernel
theorem dX4_comeBack_43 : decode cX4_comeBack 43 = .ok (.ireturn, 1) := by decide +kernel
theorem dX4_actsFor_0 : decode cX4_actsFor 0 = .ok (.aload_n 0, 1) := by decide +kernel
theorem dX4_actsFor_1 : decode cX4_actsFor 1 = .ok (.iload_n 1, 1) := by decide +kernel
theorem dX4_actsFor_2 : decode cX4_actsFor 2 = .ok (.invokevirtual 43, 3) := by decide +kernel
theorem dX4_actsFor_5 : decode cX4_actsFor 5 = .ok (.aload_n 0, 1) := by decide +kernel
theorem dX4_actsFor_6 : decode cX4_actsFor 6 = .ok (.iload_n 2, 1) := by decide +kernel
theorem dX4_actsFor_7 : decode cX4_actsFor 7 = .ok (.invokevirtual 43, 3) := by decide +kernel
theorem dX4_actsFor_10 : decode cX4_actsFor 10 = .ok (.aload_n 0, 1) := by decide +kernel
theorem dX4_actsFor_11 : decode cX4_actsFor 11 = .ok (.getfield 25, 3) := by decide +kernel
theorem dX4_actsFor_14 : decode cX4_actsFor 14 = .ok (.iload_n 1, 1) := by decide +kernel
theorem dX4_actsFor_15 : decode cX4_actsFor 15 = .ok (.iload_n 2, 1) := by decide +kernel
theorem dX4_actsFor_16 : decode cX4_actsFor 16 = .ok (.invokevirtual 65, 3) := by decide +kernel
theorem dX4_actsFor_19 : decode cX4_actsFor 19 = .ok (.ireturn, 1) := by decide +kernel
theorem dX4_grant_0 : decode cX4_grant 0 = .ok (.aload_n 0, 1) := by decide +kernel
theorem dX4_grant_1 : decode cX4_grant 1 = .ok (.iload_n 1, 1) := by decide +kernel
theorem dX4_grant_2 : decode cX4_grant 2 = .ok (.invokevirtual 43, 3) := by decide +kernel
theorem dX4_grant_5 : decode cX4_grant 5 = .ok (.iload_n 2, 1) := by decide +kernel
theorem dX4_grant_6 : decode cX4_grant 6 = .ok (.invokestatic 69, 3) := by decide +kernel
theorem dX4_grant_9 : decode cX4_grant 9 = .ok (.iload_n 3, 1) := by decide +kernel
theorem dX4_grant_10 : decode cX4_grant 10 = .ok (.invokestatic 72, 3) := by decide +kernel
theorem dX4_grant_13 : decode cX4_grant 13 = .ok (.ifCond .ne 13, 3) := by decide +kernel
theorem dX4_grant_16 : decode cX4_grant 16 = .ok (.new 47, 3) := by decide +kernel
theorem dX4_grant_19 : decode cX4_grant 19 = .ok (.dup, 1) := by decide +kernel
theorem dX4_grant_20 : decode cX4_grant 20 = .ok (.ldc 76, 2) := by decide +kernel
theorem dX4_grant_22 : decode cX4_grant 22 = .ok (.invokespecial 51, 3) := by decide +kernel
theorem dX4_grant_25 : decode cX4_grant 25 = .ok (.athrow, 1) := by decide +kernel
theorem dX4_grant_26 : decode cX4_grant 26 = .ok (.iload 4, 2) := by decide +kernel
theorem dX4_grant_28 : decode cX4_grant 28 = .ok (.iload 5, 2) := by decide +kernel
theorem dX4_grant_30 : decode cX4_grant 30 = .ok (.iload 6, 2) := by decide +kernel
theorem dX4_grant_32 : decode cX4_grant 32 = .ok (.invokestatic 78, 3) := by decide +kernel
theorem dX4_grant_35 : decode cX4_grant 35 = .ok (.aload_n 0, 1) := by decide +kernel
theorem dX4_grant_36 : decode cX4_grant 36 = .ok (.invokevirtual 81, 3) := by decide +kernel
theorem dX4_grant_39 : decode cX4_grant 39 = .ok (.aload_n 0, 1) := by decide +kernel
theorem dX4_grant_40 : decode cX4_grant 40 = .ok (.new 84, 3) := by decide +kernel
theorem dX4_grant_43 : decode cX4_grant 43 = .ok (.dup, 1) := by decide +kernel
theorem dX4_grant_44 : decode cX4_grant 44 = .ok (.aload_n 0, 1) := by decide +kernel
theorem dX4_grant_45 : decode cX4_grant 45 = .ok (.getfield 10, 3) := by decide +kernel
theorem dX4_grant_48 : decode cX4_grant 48 = .ok (.invokeinterface 86 1, 5) := by decide +kernel
theorem dX4_grant_53 : decode cX4_grant 53 = .ok (.iload_n 1, 1) := by decide +kernel
theorem dX4_grant_54 : decode cX4_grant 54 = .ok (.iload_n 2, 1) := by decide +kernel
theorem dX4_grant_55 : decode cX4_grant 55 = .ok (.iload_n 3, 1) := by decide +kernel
theorem dX4_grant_56 : decode cX4_grant 56 = .ok (.invokestatic 72, 3) := by decide +kernel
theorem dX4_grant_59 : decode cX4_grant 59 = .ok (.iload 5, 2) := by decide +kernel
theorem dX4_grant_61 : decode cX4_grant 61 = .ok (.iload 6, 2) := by decide +kernel
theorem dX4_grant_63 : decode cX4_grant 63 = .ok (.aconst_null, 1) := by decide +kernel
theorem dX4_grant_64 : decode cX4_grant 64 = .ok (.invokespecial 92, 3) := by decide +kernel
theorem dX4_grant_67 : decode cX4_grant 67 = .ok (.iload 4, 2) := by decide +kernel
theorem dX4_grant_69 : decode cX4_grant 69 = .ok (.invokevirtual 95, 3) := by decide +kernel
theorem dX4_grant_72 : decode cX4_grant 72 = .ok (.ireturn, 1) := by decide +kernel
theorem dX4_delegate_0 : decode cX4_delegate 0 = .ok (.aload_n 0, 1) := by decide +kernel
theorem dX4_delegate_1 : decode cX4_delegate 1 = .ok (.iload_n 1, 1) := by decide +kernel
theorem dX4_delegate_2 : decode cX4_delegate 2 = .ok (.invokevirtual 99, 3) := by decide +kernel
theorem dX4_delegate_5 : decode cX4_delegate 5 = .ok (.astore 6, 2) := by decide +kernel
theorem dX4_delegate_7 : decode cX4_delegate 7 = .ok (.aload_n 0, 1) := by decide +kernel
theorem dX4_delegate_8 : decode cX4_delegate 8 = .ok (.iload_n 2, 1) := by decide +kernel
theorem dX4_delegate_9 : decode cX4_delegate 9 = .ok (.invokevirtual 43, 3) := by decide +kernel
theorem dX4_delegate_12 : decode cX4_delegate 12 = .ok (.iload_n 3, 1) := by decide +kernel
theorem dX4_delegate_13 : decode cX4_delegate 13 = .ok (.iload 4, 2) := by decide +kernel
theorem dX4_delegate_15 : decode cX4_delegate 15 = .ok (.iload 5, 2) := by decide +kernel
theorem dX4_delegate_17 : decode cX4_delegate 17 = .ok (.invokestatic 78, 3) := by decide +kernel
theorem dX4_delegate_20 : decode cX4_delegate 20 = .ok (.iload_n 2, 1) := by decide +kernel
theorem dX4_delegate_21 : decode cX4_delegate 21 = .ok (.aload 6, 2) := by decide +kernel
theorem dX4_delegate_23 : decode cX4_delegate 23 = .ok (.getfield 103, 3) := by decide +kernel
theorem dX4_delegate_26 : decode cX4_delegate 26 = .ok (.if_icmp .eq 36, 3) := by decide +kernel
theorem dX4_delegate_29 : decode cX4_delegate 29 = .ok (.iload_n 3, 1) := by decide +kernel
theorem dX4_delegate_30 : decode cX4_delegate 30 = .ok (.aload_n 0, 1) := by decide +kernel
theorem dX4_delegate_31 : decode cX4_delegate 31 = .ok (.getfield 25, 3) := by decide +kernel
theorem dX4_delegate_34 : decode cX4_delegate 34 = .ok (.aload 6, 2) := by decide +kernel
theorem dX4_delegate_36 : decode cX4_delegate 36 = .ok (.invokevirtual 106, 3) := by decide +kernel
theorem dX4_delegate_39 : decode cX4_delegate 39 = .ok (.if_icmp .gt 23, 3) := by decide +kernel
theorem dX4_delegate_42 : decode cX4_delegate 42 = .ok (.iload 4, 2) := by decide +kernel
theorem dX4_delegate_44 : decode cX4_delegate 44 = .ok (.aload 6, 2) := by decide +kernel
theorem dX4_delegate_46 : decode cX4_delegate 46 = .ok (.getfield 110, 3) := by decide +kernel
theorem dX4_delegate_49 : decode cX4_delegate 49 = .ok (.if_icmp .lt 13, 3) := by decide +kernel
theorem dX4_delegate_52 : decode cX4_delegate 52 = .ok (.iload 5, 2) := by decide +kernel
theorem dX4_delegate_54 : decode cX4_delegate 54 = .ok (.aload 6, 2) := by decide +kernel
theorem dX4_delegate_56 : decode cX4_delegate 56 = .ok (.getfield 113, 3) := by decide +kernel
theorem dX4_delegate_59 : decode cX4_delegate 59 = .ok (.if_icmp .le 13, 3) := by decide +kernel
theorem dX4_delegate_62 : decode cX4_delegate 62 = .ok (.new 116, 3) := by decide +kernel
theorem dX4_delegate_65 : decode cX4_delegate 65 = .ok (.dup, 1) := by decide +kernel
theorem dX4_delegate_66 : decode cX4_delegate 66 = .ok (.ldc 118, 2) := by decide +kernel
theorem dX4_delegate_68 : decode cX4_delegate 68 = .ok (.invokespecial 120, 3) := by decide +kernel
theorem dX4_delegate_71 : decode cX4_delegate 71 = .ok (.athrow, 1) := by decide +kernel
theorem dX4_delegate_72 : decode cX4_delegate 72 = .ok (.aload_n 0, 1) := by decide +kernel
theorem dX4_delegate_73 : decode cX4_delegate 73 = .ok (.getfield 25, 3) := by decide +kernel
theorem dX4_delegate_76 : decode cX4_delegate 76 = .ok (.aload 6, 2) := by decide +kernel
theorem dX4_delegate_78 : decode cX4_delegate 78 = .ok (.invokevirtual 121, 3) := by decide +kernel
theorem dX4_delegate_81 : decode cX4_delegate 81 = .ok (.ifCond .eq 13, 3) := by decide +kernel
theorem dX4_delegate_84 : decode cX4_delegate 84 = .ok (.new 36, 3) := by decide +kernel
theorem dX4_delegate_87 : decode cX4_delegate 87 = .ok (.dup, 1) := by decide +kernel
theorem dX4_delegate_88 : decode cX4_delegate 88 = .ok (.ldc 125, 2) := by decide +kernel
theorem dX4_delegate_90 : decode cX4_delegate 90 = .ok (.invokespecial 40, 3) := by decide +kernel
theorem dX4_delegate_93 : decode cX4_delegate 93 = .ok (.athrow, 1) := by decide +kernel
theorem dX4_delegate_94 : decode cX4_delegate 94 = .ok (.aload_n 0, 1) := by decide +kernel
theorem dX4_delegate_95 : decode cX4_delegate 95 = .ok (.invokevirtual 81, 3) := by decide +kernel
theorem dX4_delegate_98 : decode cX4_delegate 98 = .ok (.aload_n 0, 1) := by decide +kernel
theorem dX4_delegate_99 : decode cX4_delegate 99 = .ok (.new 84, 3) := by decide +kernel
theorem dX4_delegate_102 : decode cX4_delegate 102 = .ok (.dup, 1) := by decide +kernel
theorem dX4_delegate_103 : decode cX4_delegate 103 = .ok (.aload_n 0, 1) := by decide +kernel
theorem dX4_delegate_104 : decode cX4_delegate 104 = .ok (.getfield 10, 3) := by decide +kernel
theorem dX4_delegate_107 : decode cX4_delegate 107 = .ok (.invokeinterface 86 1, 5) := by decide +kernel
theorem dX4_delegate_112 : decode cX4_delegate 112 = .ok (.iload_n 2, 1) := by decide +kernel
theorem dX4_delegate_113 : decode cX4_delegate 113 = .ok (.aload 6, 2) := by decide +kernel
theorem dX4_delegate_115 : decode cX4_delegate 115 = .ok (.getfield 127, 3) := by decide +kernel
theorem dX4_delegate_118 : decode cX4_delegate 118 = .ok (.aload 6, 2) := by decide +kernel
theorem dX4_delegate_120 : decode cX4_delegate 120 = .ok (.getfield 130, 3) := by decide +kernel
theorem dX4_delegate_123 : decode cX4_delegate 123 = .ok (.iload 4, 2) := by decide +kernel
theorem dX4_delegate_125 : decode cX4_delegate 125 = .ok (.iload 5, 2) := by decide +kernel
theorem dX4_delegate_127 : decode cX4_delegate 127 = .ok (.aload 6, 2) := by decide +kernel
theorem dX4_delegate_129 : decode cX4_delegate 129 = .ok (.invokespecial 92, 3) := by decide +kernel
theorem dX4_delegate_132 : decode cX4_delegate 132 = .ok (.iload_n 3, 1) := by decide +kernel
theorem dX4_delegate_133 : decode cX4_delegate 133 = .ok (.invokevirtual 95, 3) := by decide +kernel
theorem dX4_delegate_136 : decode cX4_delegate 136 = .ok (.ireturn, 1) := by decide +kernel
theorem dX4_lower_0 : decode cX4_lower 0 = .ok (.aload_n 0, 1) := by decide +kernel
theorem dX4_lower_1 : decode cX4_lower 1 = .ok (.iload_n 1, 1) := by decide +kernel
theorem dX4_lower_2 : decode cX4_lower 2 = .ok (.invokevirtual 99, 3) := by decide +kernel
theorem dX4_lower_5 : decode cX4_lower 5 = .ok (.astore_n 3, 1) := by decide +kernel
theorem dX4_lower_6 : decode cX4_lower 6 = .ok (.aload_n 0, 1) := by decide +kernel
theorem dX4_lower_7 : decode cX4_lower 7 = .ok (.getfield 25, 3) := by decide +kernel
theorem dX4_lower_10 : decode cX4_lower 10 = .ok (.aload_n 3, 1) := by decide +kernel
theorem dX4_lower_11 : decode cX4_lower 11 = .ok (.invokevirtual 106, 3) := by decide +kernel
theorem dX4_lower_14 : decode cX4_lower 14 = .ok (.istore 4, 2) := by decide +kernel
theorem dX4_lower_16 : decode cX4_lower 16 = .ok (.iload_n 2, 1) := by decide +kernel
theorem dX4_lower_17 : decode cX4_lower 17 = .ok (.iconst 1, 1) := by decide +kernel
theorem dX4_lower_18 : decode cX4_lower 18 = .ok (.iload 4, 2) := by decide +kernel
theorem dX4_lower_20 : decode cX4_lower 20 = .ok (.invokestatic 133, 3) := by decide +kernel
theorem dX4_lower_23 : decode cX4_lower 23 = .ok (.ifCond .ne 13, 3) := by decide +kernel
theorem dX4_lower_26 : decode cX4_lower 26 = .ok (.new 47, 3) := by decide +kernel
theorem dX4_lower_29 : decode cX4_lower 29 = .ok (.dup, 1) := by decide +kernel
theorem dX4_lower_30 : decode cX4_lower 30 = .ok (.ldc 137, 2) := by decide +kernel
theorem dX4_lower_32 : decode cX4_lower 32 = .ok (.invokespecial 51, 3) := by decide +kernel
theorem dX4_lower_35 : decode cX4_lower 35 = .ok (.athrow, 1) := by decide +kernel
theorem dX4_lower_36 : decode cX4_lower 36 = .ok (.aload_n 0, 1) := by decide +kernel
theorem dX4_lower_37 : decode cX4_lower 37 = .ok (.iconst 0, 1) := by decide +kernel
theorem dX4_lower_38 : decode cX4_lower 38 = .ok (.iload_n 1, 1) := by decide +kernel
theorem dX4_lower_39 : decode cX4_lower 39 = .ok (.iload_n 2, 1) := by decide +kernel
theorem dX4_lower_40 : decode cX4_lower 40 = .ok (.invokevirtual 56, 3) := by decide +kernel
theorem dX4_lower_43 : decode cX4_lower 43 = .ok (.iload 4, 2) := by decide +kernel
theorem dX4_lower_45 : decode cX4_lower 45 = .ok (.ireturn, 1) := by decide +kernel
theorem dX4_revoke_0 : decode cX4_revoke 0 = .ok (.aload_n 0, 1) := by decide +kernel
theorem dX4_revoke_1 : decode cX4_revoke 1 = .ok (.iload_n 1, 1) := by decide +kernel
theorem dX4_revoke_2 : decode cX4_revoke 2 = .ok (.invokevirtual 99, 3) := by decide +kernel
theorem dX4_revoke_5 : decode cX4_revoke 5 = .ok (.astore_n 2, 1) := by decide +kernel
theorem dX4_revoke_6 : decode cX4_revoke 6 = .ok (.aload_n 0, 1) := by decide +kernel
theorem dX4_revoke_7 : decode cX4_revoke 7 = .ok (.getfield 25, 3) := by decide +kernel
theorem dX4_revoke_10 : decode cX4_revoke 10 = .ok (.aload_n 2, 1) := by decide +kernel
theorem dX4_revoke_11 : decode cX4_revoke 11 = .ok (.invokevirtual 121, 3) := by decide +kernel
theorem dX4_revoke_14 : decode cX4_revoke 14 = .ok (.ifCond .eq 13, 3) := by decide +kernel
theorem dX4_revoke_17 : decode cX4_revoke 17 = .ok (.new 36, 3) := by decide +kernel
theorem dX4_revoke_20 : decode cX4_revoke 20 = .ok (.dup, 1) := by decide +kernel
theorem dX4_revoke_21 : decode cX4_revoke 21 = .ok (.ldc 125, 2) := by decide +kernel
theorem dX4_revoke_23 : decode cX4_revoke 23 = .ok (.invokespecial 40, 3) := by decide +kernel
theorem dX4_revoke_26 : decode cX4_revoke 26 = .ok (.athrow, 1) := by decide +kernel
theorem dX4_revoke_27 : decode cX4_revoke 27 = .ok (.aload_n 0, 1) := by decide +kernel
theorem dX4_revoke_28 : decode cX4_revoke 28 = .ok (.iconst 1, 1) := by decide +kernel
theorem dX4_revoke_29 : decode cX4_revoke 29 = .ok (.iload_n 1, 1) := by decide +kernel
theorem dX4_revoke_30 : decode cX4_revoke 30 = .ok (.iconst (-1), 1) := by decide +kernel
theorem dX4_revoke_31 : decode cX4_revoke 31 = .ok (.invokevirtual 56, 3) := by decide +kernel
theorem dX4_revoke_34 : decode cX4_revoke 34 = .ok (.aload_n 0, 1) := by decide +kernel
theorem dX4_revoke_35 : decode cX4_revoke 35 = .ok (.aload_n 2, 1) := by decide +kernel
theorem dX4_revoke_36 : decode cX4_revoke 36 = .ok (.invokevirtual 139, 3) := by decide +kernel
theorem dX4_revoke_39 : decode cX4_revoke 39 = .ok (.ireturn, 1) := by decide +kernel
theorem dX4_source_0 : decode cX4_source 0 = .ok (.aload_n 0, 1) := by decide +kernel
theorem dX4_source_1 : decode cX4_source 1 = .ok (.iload_n 1, 1) := by decide +kernel
theorem dX4_source_2 : decode cX4_source 2 = .ok (.invokevirtual 99, 3) := by decide +kernel
theorem dX4_source_5 : decode cX4_source 5 = .ok (.getfield 142, 3) := by decide +kernel
theorem dX4_source_8 : decode cX4_source 8 = .ok (.astore_n 2, 1) := by decide +kernel
theorem dX4_source_9 : decode cX4_source 9 = .ok (.aload_n 2, 1) := by decide +kernel
theorem dX4_source_10 : decode cX4_source 10 = .ok (.ifnonnull 7, 3) := by decide +kernel
theorem dX4_source_13 : decode cX4_source 13 = .ok (.iconst (-1), 1) := by decide +kernel
theorem dX4_source_14 : decode cX4_source 14 = .ok (.goto 7, 3) := by decide +kernel
theorem dX4_source_17 : decode cX4_source 17 = .ok (.aload_n 2, 1) := by decide +kernel
theorem dX4_source_18 : decode cX4_source 18 = .ok (.getfield 146, 3) := by decide +kernel
theorem dX4_source_21 : decode cX4_source 21 = .ok (.ireturn, 1) := by decide +kernel
theorem dX4_limit_0 : decode cX4_limit 0 = .ok (.aload_n 0, 1) := by decide +kernel
theorem dX4_limit_1 : decode cX4_limit 1 = .ok (.getfield 25, 3) := by decide +kernel
theorem dX4_limit_4 : decode cX4_limit 4 = .ok (.aload_n 0, 1) := by decide +kernel
theorem dX4_limit_5 : decode cX4_limit 5 = .ok (.iload_n 1, 1) := by decide +kernel
theorem dX4_limit_6 : decode cX4_limit 6 = .ok (.invokevirtual 99, 3) := by decide +kernel
theorem dX4_limit_9 : decode cX4_limit 9 = .ok (.invokevirtual 106, 3) := by decide +kernel
theorem dX4_limit_12 : decode cX4_limit 12 = .ok (.ireturn, 1) := by decide +kernel
theorem dX4_fault_0 : decode cX4_fault 0 = .ok (.aload_n 0, 1) := by decide +kernel
theorem dX4_fault_1 : decode cX4_fault 1 = .ok (.iload_n 1, 1) := by decide +kernel
theorem dX4_fault_2 : decode cX4_fault 2 = .ok (.invokevirtual 99, 3) := by decide +kernel
theorem dX4_fault_5 : decode cX4_fault 5 = .ok (.astore_n 3, 1) := by decide +kernel
theorem dX4_fault_6 : decode cX4_fault 6 = .ok (.iload_n 2, 1) := by decide +kernel
theorem dX4_fault_7 : decode cX4_fault 7 = .ok (.invokestatic 149, 3) := by decide +kernel
theorem dX4_fault_10 : decode cX4_fault 10 = .ok (.aload_n 0, 1) := by decide +kernel
theorem dX4_fault_11 : decode cX4_fault 11 = .ok (.getfield 25, 3) := by decide +kernel
theorem dX4_fault_14 : decode cX4_fault 14 = .ok (.aload_n 3, 1) := by decide +kernel
theorem dX4_fault_15 : decode cX4_fault 15 = .ok (.iload_n 2, 1) := by decide +kernel
theorem dX4_fault_16 : decode cX4_fault 16 = .ok (.invokevirtual 152, 3) := by decide +kernel
theorem dX4_fault_19 : decode cX4_fault 19 = .ok (.ireturn, 1) := by decide +kernel
theorem dX4_faultDepth_0 : decode cX4_faultDepth 0 = .ok (.aload_n 0, 1) := by decide +kernel
theorem dX4_faultDepth_1 : decode cX4_faultDepth 1 = .ok (.iload_n 1, 1) := by decide +kernel
theorem dX4_faultDepth_2 : decode cX4_faultDepth 2 = .ok (.invokevirtual 99, 3) := by decide +kernel
theorem dX4_faultDepth_5 : decode cX4_faultDepth 5 = .ok (.astore_n 3, 1) := by decide +kernel
theorem dX4_faultDepth_6 : decode cX4_faultDepth 6 = .ok (.iload_n 2, 1) := by decide +kernel
theorem dX4_faultDepth_7 : decode cX4_faultDepth 7 = .ok (.invokestatic 149, 3) := by decide +kernel
theorem dX4_faultDepth_10 : decode cX4_faultDepth 10 = .ok (.aload_n 0, 1) := by decide +kernel
theorem dX4_faultDepth_11 : decode cX4_faultDepth 11 = .ok (.getfield 25, 3) := by decide +kernel
theorem dX4_faultDepth_14 : decode cX4_faultDepth 14 = .ok (.aload_n 3, 1) := by decide +kernel
theorem dX4_faultDepth_15 : decode cX4_faultDepth 15 = .ok (.iload_n 2, 1) := by decide +kernel
theorem dX4_faultDepth_16 : decode cX4_faultDepth 16 = .ok (.invokevirtual 156, 3) := by decide +kernel
theorem dX4_faultDepth_19 : decode cX4_faultDepth 19 = .ok (.istore 4, 2) := by decide +kernel
theorem dX4_faultDepth_21 : decode cX4_faultDepth 21 = .ok (.iload 4, 2) := by decide +kernel
theorem dX4_faultDepth_23 : decode cX4_faultDepth 23 = .ok (.iconst (-1), 1) := by decide +kernel
theorem dX4_faultDepth_24 : decode cX4_faultDepth 24 = .ok (.if_icmp .ne 13, 3) := by decide +kernel
theorem dX4_faultDepth_27 : decode cX4_faultDepth 27 = .ok (.new 159, 3) := by decide +kernel
theorem dX4_faultDepth_30 : decode cX4_faultDepth 30 = .ok (.dup, 1) := by decide +kernel
theorem dX4_faultDepth_31 : decode cX4_faultDepth 31 = .ok (.ldc 161, 2) := by decide +kernel
theorem dX4_faultDepth_33 : decode cX4_faultDepth 33 = .ok (.invokespecial 163, 3) := by decide +kernel
theorem dX4_faultDepth_36 : decode cX4_faultDepth 36 = .ok (.athrow, 1) := by decide +kernel
theorem dX4_faultDepth_37 : decode cX4_faultDepth 37 = .ok (.iload 4, 2) := by decide +kernel
theorem dX4_faultDepth_39 : decode cX4_faultDepth 39 = .ok (.ireturn, 1) := by decide +kernel
theorem dX4_reach_0 : decode cX4_reach 0 = .ok (.aload_n 0, 1) := by decide +kernel
theorem dX4_reach_1 : decode cX4_reach 1 = .ok (.getfield 25, 3) := by decide +kernel
theorem dX4_reach_4 : decode cX4_reach 4 = .ok (.aload_n 0, 1) := by decide +kernel
theorem dX4_reach_5 : decode cX4_reach 5 = .ok (.iload_n 1, 1) := by decide +kernel
theorem dX4_reach_6 : decode cX4_reach 6 = .ok (.invokevirtual 99, 3) := by decide +kernel
theorem dX4_reach_9 : decode cX4_reach 9 = .ok (.invokevirtual 164, 3) := by decide +kernel
theorem dX4_reach_12 : decode cX4_reach 12 = .ok (.ireturn, 1) := by decide +kernel
theorem dX4_canSign_0 : decode cX4_canSign 0 = .ok (.aload_n 0, 1) := by decide +kernel
theorem dX4_canSign_1 : decode cX4_canSign 1 = .ok (.iload_n 1, 1) := by decide +kernel
theorem dX4_canSign_2 : decode cX4_canSign 2 = .ok (.invokevirtual 43, 3) := by decide +kernel
theorem dX4_canSign_5 : decode cX4_canSign 5 = .ok (.iload_n 2, 1) := by decide +kernel
theorem dX4_canSign_6 : decode cX4_canSign 6 = .ok (.invokestatic 69, 3) := by decide +kernel
theorem dX4_canSign_9 : decode cX4_canSign 9 = .ok (.iload_n 3, 1) := by decide +kernel
theorem dX4_canSign_10 : decode cX4_canSign 10 = .ok (.invokestatic 149, 3) := by decide +kernel
theorem dX4_canSign_13 : decode cX4_canSign 13 = .ok (.aload_n 0, 1) := by decide +kernel
theorem dX4_canSign_14 : decode cX4_canSign 14 = .ok (.iload_n 1, 1) := by decide +kernel
theorem dX4_canSign_15 : decode cX4_canSign 15 = .ok (.iload_n 2, 1) := by decide +kernel
theorem dX4_canSign_16 : decode cX4_canSign 16 = .ok (.iload_n 3, 1) := by decide +kernel
theorem dX4_canSign_17 : decode cX4_canSign 17 = .ok (.aload_n 0, 1) := by decide +kernel
theorem dX4_canSign_18 : decode cX4_canSign 18 = .ok (.getfield 25, 3) := by decide +kernel
theorem dX4_canSign_21 : decode cX4_canSign 21 = .ok (.invokevirtual 167, 3) := by decide +kernel
theorem dX4_canSign_24 : decode cX4_canSign 24 = .ok (.ireturn, 1) := by decide +kernel
theorem dX4_canSignTogether_0 : decode cX4_canSignTogether 0 = .ok (.aload_n 0, 1) := by decide +kernel
theorem dX4_canSignTogether_1 : decode cX4_canSignTogether 1 = .ok (.iload_n 1, 1) := by decide +kernel
theorem dX4_canSignTogether_2 : decode cX4_canSignTogether 2 = .ok (.invokevirtual 43, 3) := by decide +kernel
theorem dX4_canSignTogether_5 : decode cX4_canSignTogether 5 = .ok (.aload_n 0, 1) := by decide +kernel
theorem dX4_canSignTogether_6 : decode cX4_canSignTogether 6 = .ok (.iload_n 2, 1) := by decide +kernel
theorem dX4_canSignTogether_7 : decode cX4_canSignTogether 7 = .ok (.invokevirtual 43, 3) := by decide +kernel
theorem dX4_canSignTogether_10 : decode cX4_canSignTogether 10 = .ok (.iload_n 3, 1) := by decide +kernel
theorem dX4_canSignTogether_11 : decode cX4_canSignTogether 11 = .ok (.invokestatic 69, 3) := by decide +kernel
theorem dX4_canSignTogether_14 : decode cX4_canSignTogether 14 = .ok (.iload 4, 2) := by decide +kernel
theorem dX4_canSignTogether_16 : decode cX4_canSignTogether 16 = .ok (.invokestatic 149, 3) := by decide +kernel
theorem dX4_canSignTogether_19 : decode cX4_canSignTogether 19 = .ok (.iload_n 1, 1) := by decide +kernel
theorem dX4_canSignTogether_20 : decode cX4_canSignTogether 20 = .ok (.iload_n 2, 1) := by decide +kernel
theorem dX4_canSignTogether_21 : decode cX4_canSignTogether 21 = .ok (.invokestatic 171, 3) := by decide +kernel
theorem dX4_canSignTogether_24 : decode cX4_canSignTogether 24 = .ok (.aload_n 0, 1) := by decide +kernel
theorem dX4_canSignTogether_25 : decode cX4_canSignTogether 25 = .ok (.iload_n 1, 1) := by decide +kernel
theorem dX4_canSignTogether_26 : decode cX4_canSignTogether 26 = .ok (.iload_n 2, 1) := by decide +kernel
theorem dX4_canSignTogether_27 : decode cX4_canSignTogether 27 = .ok (.iload_n 3, 1) := by decide +kernel
theorem dX4_canSignTogether_28 : decode cX4_canSignTogether 28 = .ok (.iload 4, 2) := by decide +kernel
theorem dX4_canSignTogether_30 : decode cX4_canSignTogether 30 = .ok (.invokevirtual 175, 3) := by decide +kernel
theorem dX4_canSignTogether_33 : decode cX4_canSignTogether 33 = .ok (.ireturn, 1) := by decide +kernel
theorem dX4_signers_0 : decode cX4_signers 0 = .ok (.iload_n 1, 1) := by decide +kernel
theorem dX4_signers_1 : decode cX4_signers 1 = .ok (.invokestatic 69, 3) := by decide +kernel
theorem dX4_signers_4 : decode cX4_signers 4 = .ok (.iload_n 2, 1) := by decide +kernel
theorem dX4_signers_5 : decode cX4_signers 5 = .ok (.invokestatic 149, 3) := by decide +kernel
theorem dX4_signers_8 : decode cX4_signers 8 = .ok (.iconst 0, 1) := by decide +kernel
theorem dX4_signers_9 : decode cX4_signers 9 = .ok (.istore_n 3, 1) := by decide +kernel
theorem dX4_signers_10 : decode cX4_signers 10 = .ok (.iconst 0, 1) := by decide +kernel
theorem dX4_signers_11 : decode cX4_signers 11 = .ok (.istore 4, 2) := by decide +kernel
theorem dX4_signers_13 : decode cX4_signers 13 = .ok (.iload 4, 2) := by decide +kernel
theorem dX4_signers_15 : decode cX4_signers 15 = .ok (.aload_n 0, 1) := by decide +kernel
theorem dX4_signers_16 : decode cX4_signers 16 = .ok (.getfield 32, 3) := by decide +kernel
theorem dX4_signers_19 : decode cX4_signers 19 = .ok (.if_icmp .ge 27, 3) := by decide +kernel
theorem dX4_signers_22 : decode cX4_signers 22 = .ok (.aload_n 0, 1) := by decide +kernel
theorem dX4_signers_23 : decode cX4_signers 23 = .ok (.iload 4, 2) := by decide +kernel
theorem dX4_signers_25 : decode cX4_signers 25 = .ok (.iload_n 1, 1) := by decide +kernel
theorem dX4_signers_26 : decode cX4_signers 26 = .ok (.iload_n 2, 1) := by decide +kernel
theorem dX4_signers_27 : decode cX4_signers 27 = .ok (.aload_n 0, 1) := by decide +kernel
theorem dX4_signers_28 : decode cX4_signers 28 = .ok (.getfield 25, 3) := by decide +kernel
theorem dX4_signers_31 : decode cX4_signers 31 = .ok (.invokevirtual 167, 3) := by decide +kernel
theorem dX4_signers_34 : decode cX4_signers 34 = .ok (.ifCond .eq 6, 3) := by decide +kernel
theorem dX4_signers_37 : decode cX4_signers 37 = .ok (.iinc 3 1, 3) := by decide +kernel
theorem dX4_signers_40 : decode cX4_signers 40 = .ok (.iinc 4 1, 3) := by decide +kernel
theorem dX4_signers_43 : decode cX4_signers 43 = .ok (.goto (-30), 3) := by decide +kernel
theorem dX4_signers_46 : decode cX4_signers 46 = .ok (.iload_n 3, 1) := by decide +kernel
theorem dX4_signers_47 : decode cX4_signers 47 = .ok (.ireturn, 1) := by decide +kernel
theorem dX4_pairs_0 : decode cX4_pairs 0 = .ok (.iload_n 1, 1) := by decide +kernel
theorem dX4_pairs_1 : decode cX4_pairs 1 = .ok (.invokestatic 69, 3) := by decide +kernel
theorem dX4_pairs_4 : decode cX4_pairs 4 = .ok (.iload_n 2, 1) := by decide +kernel
theorem dX4_pairs_5 : decode cX4_pairs 5 = .ok (.invokestatic 149, 3) := by decide +kernel
theorem dX4_pairs_8 : decode cX4_pairs 8 = .ok (.iconst 0, 1) := by decide +kernel
theorem dX4_pairs_9 : decode cX4_pairs 9 = .ok (.istore_n 3, 1) := by decide +kernel
theorem dX4_pairs_10 : decode cX4_pairs 10 = .ok (.iconst 0, 1) := by decide +kernel
theorem dX4_pairs_11 : decode cX4_pairs 11 = .ok (.istore 4, 2) := by decide +kernel
theorem dX4_pairs_13 : decode cX4_pairs 13 = .ok (.iconst 0, 1) := by decide +kernel
theorem dX4_pairs_14 : decode cX4_pairs 14 = .ok (.istore 5, 2) := by decide +kernel
theorem dX4_pairs_16 : decode cX4_pairs 16 = .ok (.iconst 0, 1) := by decide +kernel
theorem dX4_pairs_17 : decode cX4_pairs 17 = .ok (.istore 6, 2) := by decide +kernel
theorem dX4_pairs_19 : decode cX4_pairs 19 = .ok (.iconst 0, 1) := by decide +kernel
theorem dX4_pairs_20 : decode cX4_pairs 20 = .ok (.istore 7, 2) := by decide +kernel
theorem dX4_pairs_22 : decode cX4_pairs 22 = .ok (.iload 7, 2) := by decide +kernel
theorem dX4_pairs_24 : decode cX4_pairs 24 = .ok (.aload_n 0, 1) := by decide +kernel
theorem dX4_pairs_25 : decode cX4_pairs 25 = .ok (.getfield 32, 3) := by decide +kernel
theorem dX4_pairs_28 : decode cX4_pairs 28 = .ok (.if_icmp .ge 84, 3) := by decide +kernel
theorem dX4_pairs_31 : decode cX4_pairs 31 = .ok (.aload_n 0, 1) := by decide +kernel
theorem dX4_pairs_32 : decode cX4_pairs 32 = .ok (.iload 7, 2) := by decide +kernel
theorem dX4_pairs_34 : decode cX4_pairs 34 = .ok (.iload_n 1, 1) := by decide +kernel
theorem dX4_pairs_35 : decode cX4_pairs 35 = .ok (.iload_n 2, 1) := by decide +kernel
theorem dX4_pairs_36 : decode cX4_pairs 36 = .ok (.aload_n 0, 1) := by decide +kernel
theorem dX4_pairs_37 : decode cX4_pairs 37 = .ok (.getfield 25, 3) := by decide +kernel
theorem dX4_pairs_40 : decode cX4_pairs 40 = .ok (.invokevirtual 179, 3) := by decide +kernel
theorem dX4_pairs_43 : decode cX4_pairs 43 = .ok (.istore 8, 2) := by decide +kernel
theorem dX4_pairs_45 : decode cX4_pairs 45 = .ok (.iload 8, 2) := by decide +kernel
theorem dX4_pairs_47 : decode cX4_pairs 47 = .ok (.iconst 1, 1) := by decide +kernel
theorem dX4_pairs_48 : decode cX4_pairs 48 = .ok (.iand, 1) := by decide +kernel
theorem dX4_pairs_49 : decode cX4_pairs 49 = .ok (.ifCond .ne 57, 3) := by decide +kernel
theorem dX4_pairs_52 : decode cX4_pairs 52 = .ok (.iinc 3 1, 3) := by decide +kernel
theorem dX4_pairs_55 : decode cX4_pairs 55 = .ok (.iload 4, 2) := by decide +kernel
theorem dX4_pairs_57 : decode cX4_pairs 57 = .ok (.iload 8, 2) := by decide +kernel
theorem dX4_pairs_59 : decode cX4_pairs 59 = .ok (.iconst 2, 1) := by decide +kernel
theorem dX4_pairs_60 : decode cX4_pairs 60 = .ok (.iand, 1) := by decide +kernel
theorem dX4_pairs_61 : decode cX4_pairs 61 = .ok (.ifCond .eq 7, 3) := by decide +kernel
theorem dX4_pairs_64 : decode cX4_pairs 64 = .ok (.iconst 1, 1) := by decide +kernel
theorem dX4_pairs_65 : decode cX4_pairs 65 = .ok (.goto 4, 3) := by decide +kernel
theorem dX4_pairs_68 : decode cX4_pairs 68 = .ok (.iconst 0, 1) := by decide +kernel
theorem dX4_pairs_69 : decode cX4_pairs 69 = .ok (.iadd, 1) := by decide +kernel
theorem dX4_pairs_70 : decode cX4_pairs 70 = .ok (.istore 4, 2) := by decide +kernel
theorem dX4_pairs_72 : decode cX4_pairs 72 = .ok (.iload 5, 2) := by decide +kernel
theorem dX4_pairs_74 : decode cX4_pairs 74 = .ok (.iload 8, 2) := by decide +kernel
theorem dX4_pairs_76 : decode cX4_pairs 76 = .ok (.iconst 4, 1) := by decide +kernel
theorem dX4_pairs_77 : decode cX4_pairs 77 = .ok (.iand, 1) := by decide +kernel
theorem dX4_pairs_78 : decode cX4_pairs 78 = .ok (.ifCond .eq 7, 3) := by decide +kernel
theorem dX4_pairs_81 : decode cX4_pairs 81 = .ok (.iconst 1, 1) := by decide +kernel
theorem dX4_pairs_82 : decode cX4_pairs 82 = .ok (.goto 4, 3) := by decide +kernel
theorem dX4_pairs_85 : decode cX4_pairs 85 = .ok (.iconst 0, 1) := by decide +kernel
theorem dX4_pairs_86 : decode cX4_pairs 86 = .ok (.iadd, 1) := by decide +kernel
theorem dX4_pairs_87 : decode cX4_pairs 87 = .ok (.istore 5, 2) := by decide +kernel
theorem dX4_pairs_89 : decode cX4_pairs 89 = .ok (.iload 6, 2) := by decide +kernel
theorem dX4_pairs_91 : decode cX4_pairs 91 = .ok (.iload 8, 2) := by decide +kernel
theorem dX4_pairs_93 : decode cX4_pairs 93 = .ok (.bipush 6, 2) := by decide +kernel
theorem dX4_pairs_95 : decode cX4_pairs 95 = .ok (.if_icmp .ne 7, 3) := by decide +kernel
theorem dX4_pairs_98 : decode cX4_pairs 98 = .ok (.iconst 1, 1) := by decide +kernel
theorem dX4_pairs_99 : decode cX4_pairs 99 = .ok (.goto 4, 3) := by decide +kernel
theorem dX4_pairs_102 : decode cX4_pairs 102 = .ok (.iconst 0, 1) := by decide +kernel
theorem dX4_pairs_103 : decode cX4_pairs 103 = .ok (.iadd, 1) := by decide +kernel
theorem dX4_pairs_104 : decode cX4_pairs 104 = .ok (.istore 6, 2) := by decide +kernel
theorem dX4_pairs_106 : decode cX4_pairs 106 = .ok (.iinc 7 1, 3) := by decide +kernel
theorem dX4_pairs_109 : decode cX4_pairs 109 = .ok (.goto (-87), 3) := by decide +kernel
theorem dX4_pairs_112 : decode cX4_pairs 112 = .ok (.aload_n 0, 1) := by decide +kernel
theorem dX4_pairs_113 : decode cX4_pairs 113 = .ok (.getfield 32, 3) := by decide +kernel
theorem dX4_pairs_116 : decode cX4_pairs 116 = .ok (.invokestatic 183, 3) := by decide +kernel
theorem dX4_pairs_119 : decode cX4_pairs 119 = .ok (.iload_n 3, 1) := by decide +kernel
theorem dX4_pairs_120 : decode cX4_pairs 120 = .ok (.invokestatic 183, 3) := by decide +kernel
theorem dX4_pairs_123 : decode cX4_pairs 123 = .ok (.isub, 1) := by decide +kernel
theorem dX4_pairs_124 : decode cX4_pairs 124 = .ok (.istore 7, 2) := by decide +kernel
theorem dX4_pairs_126 : decode cX4_pairs 126 = .ok (.iload 4, 2) := by decide +kernel
theorem dX4_pairs_128 : decode cX4_pairs 128 = .ok (.iload 5, 2) := by decide +kernel
theorem dX4_pairs_130 : decode cX4_pairs 130 = .ok (.imul, 1) := by decide +kernel
theorem dX4_pairs_131 : decode cX4_pairs 131 = .ok (.iload 6, 2) := by decide +kernel
theorem dX4_pairs_133 : decode cX4_pairs 133 = .ok (.isub, 1) := by decide +kernel
theorem dX4_pairs_134 : decode cX4_pairs 134 = .ok (.iload 6, 2) := by decide +kernel
theorem dX4_pairs_136 : decode cX4_pairs 136 = .ok (.invokestatic 183, 3) := by decide +kernel
theorem dX4_pairs_139 : decode cX4_pairs 139 = .ok (.isub, 1) := by decide +kernel
theorem dX4_pairs_140 : decode cX4_pairs 140 = .ok (.istore 8, 2) := by decide +kernel
theorem dX4_pairs_142 : decode cX4_pairs 142 = .ok (.iload 7, 2) := by decide +kernel
theorem dX4_pairs_144 : decode cX4_pairs 144 = .ok (.iload 8, 2) := by decide +kernel
theorem dX4_pairs_146 : decode cX4_pairs 146 = .ok (.iadd, 1) := by decide +kernel
theorem dX4_pairs_147 : decode cX4_pairs 147 = .ok (.ireturn, 1) := by decide +kernel
theorem dX4_pairsByTrying_0 : decode cX4_pairsByTrying 0 = .ok (.iload_n 1, 1) := by decide +kernel
theorem dX4_pairsByTrying_1 : decode cX4_pairsByTrying 1 = .ok (.invokestatic 69, 3) := by decide +kernel
theorem dX4_pairsByTrying_4 : decode cX4_pairsByTrying 4 = .ok (.iload_n 2, 1) := by decide +kernel
theorem dX4_pairsByTrying_5 : decode cX4_pairsByTrying 5 = .ok (.invokestatic 149, 3) := by decide +kernel
theorem dX4_pairsByTrying_8 : decode cX4_pairsByTrying 8 = .ok (.iconst 0, 1) := by decide +kernel
theorem dX4_pairsByTrying_9 : decode cX4_pairsByTrying 9 = .ok (.istore_n 3, 1) := by decide +kernel
theorem dX4_pairsByTrying_10 : decode cX4_pairsByTrying 10 = .ok (.iconst 0, 1) := by decide +kernel
theorem dX4_pairsByTrying_11 : decode cX4_pairsByTrying 11 = .ok (.istore 4, 2) := by decide +kernel
theorem dX4_pairsByTrying_13 : decode cX4_pairsByTrying 13 = .ok (.iload 4, 2) := by decide +kernel
theorem dX4_pairsByTrying_15 : decode cX4_pairsByTrying 15 = .ok (.aload_n 0, 1) := by decide +kernel
theorem dX4_pairsByTrying_16 : decode cX4_pairsByTrying 16 = .ok (.getfield 32, 3) := by decide +kernel
theorem dX4_pairsByTrying_19 : decode cX4_pairsByTrying 19 = .ok (.if_icmp .ge 46, 3) := by decide +kernel
theorem dX4_pairsByTrying_22 : decode cX4_pairsByTrying 22 = .ok (.iload 4, 2) := by decide +kernel
theorem dX4_pairsByTrying_24 : decode cX4_pairsByTrying 24 = .ok (.iconst 1, 1) := by decide +kernel
theorem dX4_pairsByTrying_25 : decode cX4_pairsByTrying 25 = .ok (.iadd, 1) := by decide +kernel
theorem dX4_pairsByTrying_26 : decode cX4_pairsByTrying 26 = .ok (.istore 5, 2) := by decide +kernel
theorem dX4_pairsByTrying_28 : decode cX4_pairsByTrying 28 = .ok (.iload 5, 2) := by decide +kernel
theorem dX4_pairsByTrying_30 : decode cX4_pairsByTrying 30 = .ok (.aload_n 0, 1) := by decide +kernel
theorem dX4_pairsByTrying_31 : decode cX4_pairsByTrying 31 = .ok (.getfield 32, 3) := by decide +kernel
theorem dX4_pairsByTrying_34 : decode cX4_pairsByTrying 34 = .ok (.if_icmp .ge 25, 3) := by decide +kernel
theorem dX4_pairsByTrying_37 : decode cX4_pairsByTrying 37 = .ok (.aload_n 0, 1) := by decide +kernel
theorem dX4_pairsByTrying_38 : decode cX4_pairsByTrying 38 = .ok (.iload 4, 2) := by decide +kernel
theorem dX4_pairsByTrying_40 : decode cX4_pairsByTrying 40 = .ok (.iload 5, 2) := by decide +kernel
theorem dX4_pairsByTrying_42 : decode cX4_pairsByTrying 42 = .ok (.iload_n 1, 1) := by decide +kernel
theorem dX4_pairsByTrying_43 : decode cX4_pairsByTrying 43 = .ok (.iload_n 2, 1) := by decide +kernel
theorem dX4_pairsByTrying_44 : decode cX4_pairsByTrying 44 = .ok (.invokevirtual 175, 3) := by decide +kernel
theorem dX4_pairsByTrying_47 : decode cX4_pairsByTrying 47 = .ok (.ifCond .eq 6, 3) := by decide +kernel
theorem dX4_pairsByTrying_50 : decode cX4_pairsByTrying 50 = .ok (.iinc 3 1, 3) := by decide +kernel
theorem dX4_pairsByTrying_53 : decode cX4_pairsByTrying 53 = .ok (.iinc 5 1, 3) := by decide +kernel
theorem dX4_pairsByTrying_56 : decode cX4_pairsByTrying 56 = .ok (.goto (-28), 3) := by decide +kernel
theorem dX4_pairsByTrying_59 : decode cX4_pairsByTrying 59 = .ok (.iinc 4 1, 3) := by decide +kernel
theorem dX4_pairsByTrying_62 : decode cX4_pairsByTrying 62 = .ok (.goto (-49), 3) := by decide +kernel
theorem dX4_pairsByTrying_65 : decode cX4_pairsByTrying 65 = .ok (.iload_n 3, 1) := by decide +kernel
theorem dX4_pairsByTrying_66 : decode cX4_pairsByTrying 66 = .ok (.ireturn, 1) := by decide +kernel
theorem dX4_sign_0 : decode cX4_sign 0 = .ok (.aload_n 0, 1) := by decide +kernel
theorem dX4_sign_1 : decode cX4_sign 1 = .ok (.iload_n 1, 1) := by decide +kernel
theorem dX4_sign_2 : decode cX4_sign 2 = .ok (.invokevirtual 43, 3) := by decide +kernel
theorem dX4_sign_5 : decode cX4_sign 5 = .ok (.iload_n 2, 1) := by decide +kernel
theorem dX4_sign_6 : decode cX4_sign 6 = .ok (.iload_n 3, 1) := by decide +kernel
theorem dX4_sign_7 : decode cX4_sign 7 = .ok (.iload 4, 2) := by decide +kernel
theorem dX4_sign_9 : decode cX4_sign 9 = .ok (.invokestatic 186, 3) := by decide +kernel
theorem dX4_sign_12 : decode cX4_sign 12 = .ok (.aload_n 0, 1) := by decide +kernel
theorem dX4_sign_13 : decode cX4_sign 13 = .ok (.invokevirtual 189, 3) := by decide +kernel
theorem dX4_sign_16 : decode cX4_sign 16 = .ok (.aload_n 0, 1) := by decide +kernel
theorem dX4_sign_17 : decode cX4_sign 17 = .ok (.new 192, 3) := by decide +kernel
theorem dX4_sign_20 : decode cX4_sign 20 = .ok (.dup, 1) := by decide +kernel
theorem dX4_sign_21 : decode cX4_sign 21 = .ok (.aload_n 0, 1) := by decide +kernel
theorem dX4_sign_22 : decode cX4_sign 22 = .ok (.getfield 16, 3) := by decide +kernel
theorem dX4_sign_25 : decode cX4_sign 25 = .ok (.invokeinterface 86 1, 5) := by decide +kernel
theorem dX4_sign_30 : decode cX4_sign 30 = .ok (.iload_n 1, 1) := by decide +kernel
theorem dX4_sign_31 : decode cX4_sign 31 = .ok (.iconst (-1), 1) := by decide +kernel
theorem dX4_sign_32 : decode cX4_sign 32 = .ok (.iload_n 2, 1) := by decide +kernel
theorem dX4_sign_33 : decode cX4_sign 33 = .ok (.iload_n 3, 1) := by decide +kernel
theorem dX4_sign_34 : decode cX4_sign 34 = .ok (.iload 4, 2) := by decide +kernel
theorem dX4_sign_36 : decode cX4_sign 36 = .ok (.invokespecial 194, 3) := by decide +kernel
theorem dX4_sign_39 : decode cX4_sign 39 = .ok (.invokevirtual 197, 3) := by decide +kernel
theorem dX4_sign_42 : decode cX4_sign 42 = .ok (.ireturn, 1) := by decide +kernel
theorem dX4_signTogether_0 : decode cX4_signTogether 0 = .ok (.aload_n 0, 1) := by decide +kernel
theorem dX4_signTogether_1 : decode cX4_signTogether 1 = .ok (.iload_n 1, 1) := by decide +kernel
theorem dX4_signTogether_2 : decode cX4_signTogether 2 = .ok (.invokevirtual 43, 3) := by decide +kernel
theorem dX4_signTogether_5 : decode cX4_signTogether 5 = .ok (.aload_n 0, 1) := by decide +kernel
theorem dX4_signTogether_6 : decode cX4_signTogether 6 = .ok (.iload_n 2, 1) := by decide +kernel
theorem dX4_signTogether_7 : decode cX4_signTogether 7 = .ok (.invokevirtual 43, 3) := by decide +kernel
theorem dX4_signTogether_10 : decode cX4_signTogether 10 = .ok (.iload_n 3, 1) := by decide +kernel
theorem dX4_signTogether_11 : decode cX4_signTogether 11 = .ok (.iload 4, 2) := by decide +kernel
theorem dX4_signTogether_13 : decode cX4_signTogether 13 = .ok (.iload 5, 2) := by decide +kernel
theorem dX4_signTogether_15 : decode cX4_signTogether 15 = .ok (.invokestatic 186, 3) := by decide +kernel
theorem dX4_signTogether_18 : decode cX4_signTogether 18 = .ok (.iload_n 1, 1) := by decide +kernel
theorem dX4_signTogether_19 : decode cX4_signTogether 19 = .ok (.iload_n 2, 1) := by decide +kernel
theorem dX4_signTogether_20 : decode cX4_signTogether 20 = .ok (.invokestatic 171, 3) := by decide +kernel
theorem dX4_signTogether_23 : decode cX4_signTogether 23 = .ok (.aload_n 0, 1) := by decide +kernel
theorem dX4_signTogether_24 : decode cX4_signTogether 24 = .ok (.invokevirtual 189, 3) := by decide +kernel
theorem dX4_signTogether_27 : decode cX4_signTogether 27 = .ok (.aload_n 0, 1) := by decide +kernel
theorem dX4_signTogether_28 : decode cX4_signTogether 28 = .ok (.new 192, 3) := by decide +kernel
theorem dX4_signTogether_31 : decode cX4_signTogether 31 = .ok (.dup, 1) := by decide +kernel
theorem dX4_signTogether_32 : decode cX4_signTogether 32 = .ok (.aload_n 0, 1) := by decide +kernel
theorem dX4_signTogether_33 : decode cX4_signTogether 33 = .ok (.getfield 16, 3) := by decide +kernel
theorem dX4_signTogether_36 : decode cX4_signTogether 36 = .ok (.invokeinterface 86 1, 5) := by decide +kernel
theorem dX4_signTogether_41 : decode cX4_signTogether 41 = .ok (.iload_n 1, 1) := by decide +kernel
theorem dX4_signTogether_42 : decode cX4_signTogether 42 = .ok (.iload_n 2, 1) := by decide +kernel
theorem dX4_signTogether_43 : decode cX4_signTogether 43 = .ok (.iload_n 3, 1) := by decide +kernel
theorem dX4_signTogether_44 : decode cX4_signTogether 44 = .ok (.iload 4, 2) := by decide +kernel
theorem dX4_signTogether_46 : decode cX4_signTogether 46 = .ok (.iload 5, 2) := by decide +kernel
theorem dX4_signTogether_48 : decode cX4_signTogether 48 = .ok (.invokespecial 194, 3) := by decide +kernel
theorem dX4_signTogether_51 : decode cX4_signTogether 51 = .ok (.invokevirtual 197, 3) := by decide +kernel
theorem dX4_signTogether_54 : decode cX4_signTogether 54 = .ok (.ireturn, 1) := by decide +kernel
theorem dX4_ratify_0 : decode cX4_ratify 0 = .ok (.aload_n 0, 1) := by decide +kernel
theorem dX4_ratify_1 : decode cX4_ratify 1 = .ok (.iload_n 1, 1) := by decide +kernel
theorem dX4_ratify_2 : decode cX4_ratify 2 = .ok (.invokevirtual 201, 3) := by decide +kernel
theorem dX4_ratify_5 : decode cX4_ratify 5 = .ok (.astore_n 3, 1) := by decide +kernel
theorem dX4_ratify_6 : decode cX4_ratify 6 = .ok (.aload_n 0, 1) := by decide +kernel
theorem dX4_ratify_7 : decode cX4_ratify 7 = .ok (.iload_n 2, 1) := by decide +kernel
theorem dX4_ratify_8 : decode cX4_ratify 8 = .ok (.invokevirtual 43, 3) := by decide +kernel
theorem dX4_ratify_11 : decode cX4_ratify 11 = .ok (.aload_n 3, 1) := by decide +kernel
theorem dX4_ratify_12 : decode cX4_ratify 12 = .ok (.invokestatic 205, 3) := by decide +kernel
theorem dX4_ratify_15 : decode cX4_ratify 15 = .ok (.aload_n 0, 1) := by decide +kernel
theorem dX4_ratify_16 : decode cX4_ratify 16 = .ok (.iload_n 2, 1) := by decide +kernel
theorem dX4_ratify_17 : decode cX4_ratify 17 = .ok (.aload_n 3, 1) := by decide +kernel
theorem dX4_ratify_18 : decode cX4_ratify 18 = .ok (.getfield 209, 3) := by decide +kernel
theorem dX4_ratify_21 : decode cX4_ratify 21 = .ok (.aload_n 3, 1) := by decide +kernel
theorem dX4_ratify_22 : decode cX4_ratify 22 = .ok (.getfield 210, 3) := by decide +kernel
theorem dX4_ratify_25 : decode cX4_ratify 25 = .ok (.aload_n 0, 1) := by decide +kernel
theorem dX4_ratify_26 : decode cX4_ratify 26 = .ok (.getfield 25, 3) := by decide +kernel
theorem dX4_ratify_29 : decode cX4_ratify 29 = .ok (.invokevirtual 167, 3) := by decide +kernel
theorem dX4_ratify_32 : decode cX4_ratify 32 = .ok (.ifCond .ne 13, 3) := by decide +kernel
theorem dX4_ratify_35 : decode cX4_ratify 35 = .ok (.new 116, 3) := by decide +kernel
theorem dX4_ratify_38 : decode cX4_ratify 38 = .ok (.dup, 1) := by decide +kernel
theorem dX4_ratify_39 : decode cX4_ratify 39 = .ok (.ldc 213, 2) := by decide +kernel
theorem dX4_ratify_41 : decode cX4_ratify 41 = .ok (.invokespecial 120, 3) := by decide +kernel
theorem dX4_ratify_44 : decode cX4_ratify 44 = .ok (.athrow, 1) := by decide +kernel
theorem dX4_ratify_45 : decode cX4_ratify 45 = .ok (.aload_n 3, 1) := by decide +kernel
theorem dX4_ratify_46 : decode cX4_ratify 46 = .ok (.bipush 114, 2) := by decide +kernel
theorem dX4_ratify_48 : decode cX4_ratify 48 = .ok (.putfield 215, 3) := by decide +kernel
theorem dX4_ratify_51 : decode cX4_ratify 51 = .ok (.aload_n 3, 1) := by decide +kernel
theorem dX4_ratify_52 : decode cX4_ratify 52 = .ok (.iload_n 2, 1) := by decide +kernel
theorem dX4_ratify_53 : decode cX4_ratify 53 = .ok (.putfield 219, 3) := by decide +kernel
theorem dX4_ratify_56 : decode cX4_ratify 56 = .ok (.aload_n 3, 1) := by decide +kernel
theorem dX4_ratify_57 : decode cX4_ratify 57 = .ok (.aload_n 0, 1) := by decide +kernel
theorem dX4_ratify_58 : decode cX4_ratify 58 = .ok (.getfield 25, 3) := by decide +kernel
theorem dX4_ratify_61 : decode cX4_ratify 61 = .ok (.getfield 222, 3) := by decide +kernel
theorem dX4_ratify_64 : decode cX4_ratify 64 = .ok (.putfield 225, 3) := by decide +kernel
theorem dX4_ratify_67 : decode cX4_ratify 67 = .ok (.aload_n 3, 1) := by decide +kernel
theorem dX4_ratify_68 : decode cX4_ratify 68 = .ok (.aload_n 0, 1) := by decide +kernel
theorem dX4_ratify_69 : decode cX4_ratify 69 = .ok (.getfield 19, 3) := by decide +kernel
theorem dX4_ratify_72 : decode cX4_ratify 72 = .ok (.invokeinterface 86 1, 5) := by decide +kernel
theorem dX4_ratify_77 : decode cX4_ratify 77 = .ok (.putfield 228, 3) := by decide +kernel
theorem dX4_ratify_80 : decode cX4_ratify 80 = .ok (.aload_n 3, 1) := by decide +kernel
theorem dX4_ratify_81 : decode cX4_ratify 81 = .ok (.getfield 210, 3) := by decide +kernel
theorem dX4_ratify_84 : decode cX4_ratify 84 = .ok (.ireturn, 1) := by decide +kernel
theorem dX4_annul_0 : decode cX4_annul 0 = .ok (.aload_n 0, 1) := by decide +kernel
theorem dX4_annul_1 : decode cX4_annul 1 = .ok (.iload_n 1, 1) := by decide +kernel
theorem dX4_annul_2 : decode cX4_annul 2 = .ok (.invokevirtual 201, 3) := by decide +kernel
theorem dX4_annul_5 : decode cX4_annul 5 = .ok (.astore_n 2, 1) := by decide +kernel
theorem dX4_annul_6 : decode cX4_annul 6 = .ok (.aload_n 2, 1) := by decide +kernel
theorem dX4_annul_7 : decode cX4_annul 7 = .ok (.invokestatic 205, 3) := by decide +kernel
theorem dX4_annul_10 : decode cX4_annul 10 = .ok (.aload_n 2, 1) := by decide +kernel
theorem dX4_annul_11 : decode cX4_annul 11 = .ok (.bipush 110, 2) := by decide +kernel
theorem dX4_annul_13 : decode cX4_annul 13 = .ok (.putfield 215, 3) := by decide +kernel
theorem dX4_annul_16 : decode cX4_annul 16 = .ok (.aload_n 0, 1) := by decide +kernel
theorem dX4_annul_17 : decode cX4_annul 17 = .ok (.iconst 4, 1) := by decide +kernel
theorem dX4_annul_18 : decode cX4_annul 18 = .ok (.iload_n 1, 1) := by decide +kernel
theorem dX4_annul_19 : decode cX4_annul 19 = .ok (.iconst (-1), 1) := by decide +kernel
theorem dX4_annul_20 : decode cX4_annul 20 = .ok (.invokevirtual 56, 3) := by decide +kernel
theorem dX4_annul_23 : decode cX4_annul 23 = .ok (.aload_n 0, 1) := by decide +kernel
theorem dX4_annul_24 : decode cX4_annul 24 = .ok (.invokevirtual 231, 3) := by decide +kernel
theorem dX4_annul_27 : decode cX4_annul 27 = .ok (.ireturn, 1) := by decide +kernel
theorem dX4_status_0 : decode cX4_status 0 = .ok (.aload_n 0, 1) := by decide +kernel
theorem dX4_status_1 : decode cX4_status 1 = .ok (.iload_n 1, 1) := by decide +kernel
theorem dX4_status_2 : decode cX4_status 2 = .ok (.invokevirtual 201, 3) := by decide +kernel
theorem dX4_status_5 : decode cX4_status 5 = .ok (.getfield 215, 3) := by decide +kernel
theorem dX4_status_8 : decode cX4_status 8 = .ok (.ireturn, 1) := by decide +kernel
theorem dX4_sum_0 : decode cX4_sum 0 = .ok (.aload_n 0, 1) := by decide +kernel
theorem dX4_sum_1 : decode cX4_sum 1 = .ok (.iload_n 1, 1) := by decide +kernel
theorem dX4_sum_2 : decode cX4_sum 2 = .ok (.invokevirtual 201, 3) := by decide +kernel
theorem dX4_sum_5 : decode cX4_sum 5 = .ok (.getfield 210, 3) := by decide +kernel
theorem dX4_sum_8 : decode cX4_sum 8 = .ok (.ireturn, 1) := by decide +kernel
theorem dX4_sumByPapers_0 : decode cX4_sumByPapers 0 = .ok (.aload_n 0, 1) := by decide +kernel
theorem dX4_sumByPapers_1 : decode cX4_sumByPapers 1 = .ok (.iload_n 1, 1) := by decide +kernel
theorem dX4_sumByPapers_2 : decode cX4_sumByPapers 2 = .ok (.invokevirtual 201, 3) := by decide +kernel
theorem dX4_sumByPapers_5 : decode cX4_sumByPapers 5 = .ok (.astore_n 2, 1) := by decide +kernel
theorem dX4_sumByPapers_6 : decode cX4_sumByPapers 6 = .ok (.aload_n 0, 1) := by decide +kernel
theorem dX4_sumByPapers_7 : decode cX4_sumByPapers 7 = .ok (.aload_n 2, 1) := by decide +kernel
theorem dX4_sumByPapers_8 : decode cX4_sumByPapers 8 = .ok (.getfield 234, 3) := by decide +kernel
theorem dX4_sumByPapers_11 : decode cX4_sumByPapers 11 = .ok (.aload_n 2, 1) := by decide +kernel
theorem dX4_sumByPapers_12 : decode cX4_sumByPapers 12 = .ok (.getfield 237, 3) := by decide +kernel
theorem dX4_sumByPapers_15 : decode cX4_sumByPapers 15 = .ok (.invokevirtual 240, 3) := by decide +kernel
theorem dX4_sumByPapers_18 : decode cX4_sumByPapers 18 = .ok (.aload_n 0, 1) := by decide +kernel
theorem dX4_sumByPapers_19 : decode cX4_sumByPapers 19 = .ok (.aload_n 2, 1) := by decide +kernel
theorem dX4_sumByPapers_20 : decode cX4_sumByPapers 20 = .ok (.aload_n 0, 1) := by decide +kernel
theorem dX4_sumByPapers_21 : decode cX4_sumByPapers 21 = .ok (.getfield 29, 3) := by decide +kernel
theorem dX4_sumByPapers_24 : decode cX4_sumByPapers 24 = .ok (.invokevirtual 243, 3) := by decide +kernel
theorem dX4_sumByPapers_27 : decode cX4_sumByPapers 27 = .ok (.ireturn, 1) := by decide +kernel
theorem dX4_stands_0 : decode cX4_stands 0 = .ok (.aload_n 0, 1) := by decide +kernel
theorem dX4_stands_1 : decode cX4_stands 1 = .ok (.iload_n 1, 1) := by decide +kernel
theorem dX4_stands_2 : decode cX4_stands 2 = .ok (.invokevirtual 201, 3) := by decide +kernel
theorem dX4_stands_5 : decode cX4_stands 5 = .ok (.invokevirtual 247, 3) := by decide +kernel
theorem dX4_stands_8 : decode cX4_stands 8 = .ok (.ireturn, 1) := by decide +kernel
theorem dX4_standsByPapers_0 : decode cX4_standsByPapers 0 = .ok (.aload_n 0, 1) := by decide +kernel
theorem dX4_standsByPapers_1 : decode cX4_standsByPapers 1 = .ok (.iload_n 1, 1) := by decide +kernel
theorem dX4_standsByPapers_2 : decode cX4_standsByPapers 2 = .ok (.invokevirtual 201, 3) := by decide +kernel
theorem dX4_standsByPapers_5 : decode cX4_standsByPapers 5 = .ok (.astore_n 2, 1) := by decide +kernel
theorem dX4_standsByPapers_6 : decode cX4_standsByPapers 6 = .ok (.aload_n 0, 1) := by decide +kernel
theorem dX4_standsByPapers_7 : decode cX4_standsByPapers 7 = .ok (.aload_n 2, 1) := by decide +kernel
theorem dX4_standsByPapers_8 : decode cX4_standsByPapers 8 = .ok (.getfield 234, 3) := by decide +kernel
theorem dX4_standsByPapers_11 : decode cX4_standsByPapers 11 = .ok (.aload_n 2, 1) := by decide +kernel
theorem dX4_standsByPapers_12 : decode cX4_standsByPapers 12 = .ok (.getfield 237, 3) := by decide +kernel
theorem dX4_standsByPapers_15 : decode cX4_standsByPapers 15 = .ok (.invokevirtual 240, 3) := by decide +kernel
theorem dX4_standsByPapers_18 : decode cX4_standsByPapers 18 = .ok (.aload_n 0, 1) := by decide +kernel
theorem dX4_standsByPapers_19 : decode cX4_standsByPapers 19 = .ok (.aload_n 2, 1) := by decide +kernel
theorem dX4_standsByPapers_20 : decode cX4_standsByPapers 20 = .ok (.aload_n 0, 1) := by decide +kernel
theorem dX4_standsByPapers_21 : decode cX4_standsByPapers 21 = .ok (.getfield 29, 3) := by decide +kernel
theorem dX4_standsByPapers_24 : decode cX4_standsByPapers 24 = .ok (.invokevirtual 243, 3) := by decide +kernel
theorem dX4_standsByPapers_27 : decode cX4_standsByPapers 27 = .ok (.istore_n 3, 1) := by decide +kernel
theorem dX4_standsByPapers_28 : decode cX4_standsByPapers 28 = .ok (.aload_n 0, 1) := by decide +kernel
theorem dX4_standsByPapers_29 : decode cX4_standsByPapers 29 = .ok (.aload_n 2, 1) := by decide +kernel
theorem dX4_standsByPapers_30 : decode cX4_standsByPapers 30 = .ok (.iload_n 3, 1) := by decide +kernel
theorem dX4_standsByPapers_31 : decode cX4_standsByPapers 31 = .ok (.aload_n 0, 1) := by decide +kernel
theorem dX4_standsByPapers_32 : decode cX4_standsByPapers 32 = .ok (.getfield 29, 3) := by decide +kernel
theorem dX4_standsByPapers_35 : decode cX4_standsByPapers 35 = .ok (.invokevirtual 251, 3) := by decide +kernel
theorem dX4_standsByPapers_38 : decode cX4_standsByPapers 38 = .ok (.ifCond .eq 5, 3) := by decide +kernel
theorem dX4_standsByPapers_41 : decode cX4_standsByPapers 41 = .ok (.iconst 1, 1) := by decide +kernel
theorem dX4_standsByPapers_42 : decode cX4_standsByPapers 42 = .ok (.ireturn, 1) := by decide +kernel
theorem dX4_standsByPapers_43 : decode cX4_standsByPapers 43 = .ok (.aload_n 2, 1) := by decide +kernel
theorem dX4_standsByPapers_44 : decode cX4_standsByPapers 44 = .ok (.getfield 219, 3) := by decide +kernel
theorem dX4_standsByPapers_47 : decode cX4_standsByPapers 47 = .ok (.iconst (-1), 1) := by decide +kernel
theorem dX4_standsByPapers_48 : decode cX4_standsByPapers 48 = .ok (.if_icmp .ne 5, 3) := by decide +kernel
theorem dX4_standsByPapers_51 : decode cX4_standsByPapers 51 = .ok (.iconst 0, 1) := by decide +kernel
theorem dX4_standsByPapers_52 : decode cX4_standsByPapers 52 = .ok (.ireturn, 1) := by decide +kernel
theorem dX4_standsByPapers_53 : decode cX4_standsByPapers 53 = .ok (.aload_n 0, 1) := by decide +kernel
theorem dX4_standsByPapers_54 : decode cX4_standsByPapers 54 = .ok (.aload_n 2, 1) := by decide +kernel
theorem dX4_standsByPapers_55 : decode cX4_standsByPapers 55 = .ok (.getfield 228, 3) := by decide +kernel
theorem dX4_standsByPapers_58 : decode cX4_standsByPapers 58 = .ok (.aload_n 2, 1) := by decide +kernel
theorem dX4_standsByPapers_59 : decode cX4_standsByPapers 59 = .ok (.getfield 225, 3) := by decide +kernel
theorem dX4_standsByPapers_62 : decode cX4_standsByPapers 62 = .ok (.invokevirtual 240, 3) := by decide +kernel
theorem dX4_standsByPapers_65 : decode cX4_standsByPapers 65 = .ok (.aload_n 0, 1) := by decide +kernel
theorem dX4_standsByPapers_66 : decode cX4_standsByPapers 66 = .ok (.aload_n 2, 1) := by decide +kernel
theorem dX4_standsByPapers_67 : decode cX4_standsByPapers 67 = .ok (.getfield 219, 3) := by decide +kernel
theorem dX4_standsByPapers_70 : decode cX4_standsByPapers 70 = .ok (.aload_n 2, 1) := by decide +kernel
theorem dX4_standsByPapers_71 : decode cX4_standsByPapers 71 = .ok (.getfield 209, 3) := by decide +kernel
theorem dX4_standsByPapers_74 : decode cX4_standsByPapers 74 = .ok (.iload_n 3, 1) := by decide +kernel
theorem dX4_standsByPapers_75 : decode cX4_standsByPapers 75 = .ok (.aload_n 0, 1) := by decide +kernel
theorem dX4_standsByPapers_76 : decode cX4_standsByPapers 76 = .ok (.getfield 29, 3) := by decide +kernel
theorem dX4_standsByPapers_79 : decode cX4_standsByPapers 79 = .ok (.invokevirtual 167, 3) := by decide +kernel
theorem dX4_standsByPapers_82 : decode cX4_standsByPapers 82 = .ok (.ireturn, 1) := by decide +kernel
theorem dX4_lack_0 : decode cX4_lack 0 = .ok (.aload_n 0, 1) := by decide +kernel
theorem dX4_lack_1 : decode cX4_lack 1 = .ok (.iload_n 1, 1) := by decide +kernel
theorem dX4_lack_2 : decode cX4_lack 2 = .ok (.invokevirtual 201, 3) := by decide +kernel
theorem dX4_lack_5 : decode cX4_lack 5 = .ok (.astore_n 2, 1) := by decide +kernel
theorem dX4_lack_6 : decode cX4_lack 6 = .ok (.aload_n 2, 1) := by decide +kernel
theorem dX4_lack_7 : decode cX4_lack 7 = .ok (.getfield 255, 3) := by decide +kernel
theorem dX4_lack_10 : decode cX4_lack 10 = .ok (.bipush 45, 2) := by decide +kernel
theorem dX4_lack_12 : decode cX4_lack 12 = .ok (.if_icmp .ne 14, 3) := by decide +kernel
theorem dX4_lack_15 : decode cX4_lack 15 = .ok (.new 159, 3) := by decide +kernel
theorem dX4_lack_18 : decode cX4_lack 18 = .ok (.dup, 1) := by decide +kernel
theorem dX4_lack_19 : decode cX4_lack 19 = .ok (.ldc_w 258, 3) := by decide +kernel
theorem dX4_lack_22 : decode cX4_lack 22 = .ok (.invokespecial 163, 3) := by decide +kernel
theorem dX4_lack_25 : decode cX4_lack 25 = .ok (.athrow, 1) := by decide +kernel
theorem dX4_lack_26 : decode cX4_lack 26 = .ok (.aload_n 2, 1) := by decide +kernel
theorem dX4_lack_27 : decode cX4_lack 27 = .ok (.getfield 255, 3) := by decide +kernel
theorem dX4_lack_30 : decode cX4_lack 30 = .ok (.ireturn, 1) := by decide +kernel
theorem dX4_lackPower_0 : decode cX4_lackPower 0 = .ok (.aload_n 0, 1) := by decide +kernel
theorem dX4_lackPower_1 : decode cX4_lackPower 1 = .ok (.iload_n 1, 1) := by decide +kernel
theorem dX4_lackPower_2 : decode cX4_lackPower 2 = .ok (.invokevirtual 201, 3) := by decide +kernel
theorem dX4_lackPower_5 : decode cX4_lackPower 5 = .ok (.astore_n 2, 1) := by decide +kernel
theorem dX4_lackPower_6 : decode cX4_lackPower 6 = .ok (.aload_n 2, 1) := by decide +kernel
theorem dX4_lackPower_7 : decode cX4_lackPower 7 = .ok (.invokestatic 260, 3) := by decide +kernel
theorem dX4_lackPower_10 : decode cX4_lackPower 10 = .ok (.aload_n 2, 1) := by decide +kernel
theorem dX4_lackPower_11 : decode cX4_lackPower 11 = .ok (.getfield 263, 3) := by decide +kernel
theorem dX4_lackPower_14 : decode cX4_lackPower 14 = .ok (.ireturn, 1) := by decide +kernel
theorem dX4_lackDepth_0 : decode cX4_lackDepth 0 = .ok (.aload_n 0, 1) := by decide +kernel
theorem dX4_lackDepth_1 : decode cX4_lackDepth 1 = .ok (.iload_n 1, 1) := by decide +kernel
theorem dX4_lackDepth_2 : decode cX4_lackDepth 2 = .ok (.invokevirtual 201, 3) := by decide +kernel
theorem dX4_lackDepth_5 : decode cX4_lackDepth 5 = .ok (.astore_n 2, 1) := by decide +kernel
theorem dX4_lackDepth_6 : decode cX4_lackDepth 6 = .ok (.aload_n 2, 1) := by decide +kernel
theorem dX4_lackDepth_7 : decode cX4_lackDepth 7 = .ok (.invokestatic 260, 3) := by decide +kernel
theorem dX4_lackDepth_10 : decode cX4_lackDepth 10 = .ok (.aload_n 2, 1) := by decide +kernel
theorem dX4_lackDepth_11 : decode cX4_lackDepth 11 = .ok (.getfield 266, 3) := by decide +kernel
theorem dX4_lackDepth_14 : decode cX4_lackDepth 14 = .ok (.ireturn, 1) := by decide +kernel
theorem dX4_setWindow_0 : decode cX4_setWindow 0 = .ok (.iload_n 1, 1) := by decide +kernel
theorem dX4_setWindow_1 : decode cX4_setWindow 1 = .ok (.invokestatic 269, 3) := by decide +kernel
theorem dX4_setWindow_4 : decode cX4_setWindow 4 = .ok (.aload_n 0, 1) := by decide +kernel
theorem dX4_setWindow_5 : decode cX4_setWindow 5 = .ok (.getfield 25, 3) := by decide +kernel
theorem dX4_setWindow_8 : decode cX4_setWindow 8 = .ok (.getfield 272, 3) := by decide +kernel
theorem dX4_setWindow_11 : decode cX4_setWindow 11 = .ok (.istore_n 2, 1) := by decide +kernel
theorem dX4_setWindow_12 : decode cX4_setWindow 12 = .ok (.aload_n 0, 1) := by decide +kernel
theorem dX4_setWindow_13 : decode cX4_setWindow 13 = .ok (.iconst 3, 1) := by decide +kernel
theorem dX4_setWindow_14 : decode cX4_setWindow 14 = .ok (.iconst (-1), 1) := by decide +kernel
theorem dX4_setWindow_15 : decode cX4_setWindow 15 = .ok (.iload_n 1, 1) := by decide +kernel
theorem dX4_setWindow_16 : decode cX4_setWindow 16 = .ok (.invokevirtual 56, 3) := by decide +kernel
theorem dX4_setWindow_19 : decode cX4_setWindow 19 = .ok (.iload_n 2, 1) := by decide +kernel
theorem dX4_setWindow_20 : decode cX4_setWindow 20 = .ok (.ireturn, 1) := by decide +kernel
theorem dX4_pass_0 : decode cX4_pass 0 = .ok (.iload_n 1, 1) := by decide +kernel
theorem dX4_pass_1 : decode cX4_pass 1 = .ok (.invokestatic 269, 3) := by decide +kernel
theorem dX4_pass_4 : decode cX4_pass 4 = .ok (.aload_n 0, 1) := by decide +kernel
theorem dX4_pass_5 : decode cX4_pass 5 = .ok (.getfield 25, 3) := by decide +kernel
theorem dX4_pass_8 : decode cX4_pass 8 = .ok (.getfield 222, 3) := by decide +kernel
theorem dX4_pass_11 : decode cX4_pass 11 = .ok (.iload_n 1, 1) := by decide +kernel
theorem dX4_pass_12 : decode cX4_pass 12 = .ok (.iadd, 1) := by decide +kernel
theorem dX4_pass_13 : decode cX4_pass 13 = .ok (.sipush 999, 3) := by decide +kernel
theorem dX4_pass_16 : decode cX4_pass 16 = .ok (.if_icmp .le 14, 3) := by decide +kernel
theorem dX4_pass_19 : decode cX4_pass 19 = .ok (.new 47, 3) := by decide +kernel
theorem dX4_pass_22 : decode cX4_pass 22 = .ok (.dup, 1) := by decide +kernel
theorem dX4_pass_23 : decode cX4_pass 23 = .ok (.ldc_w 275, 3) := by decide +kernel
theorem dX4_pass_26 : decode cX4_pass 26 = .ok (.invokespecial 51, 3) := by decide +kernel
theorem dX4_pass_29 : decode cX4_pass 29 = .ok (.athrow, 1) := by decide +kernel
theorem dX4_pass_30 : decode cX4_pass 30 = .ok (.aload_n 0, 1) := by decide +kernel
theorem dX4_pass_31 : decode cX4_pass 31 = .ok (.getfield 25, 3) := by decide +kernel
theorem dX4_pass_34 : decode cX4_pass 34 = .ok (.dup, 1) := by decide +kernel
theorem dX4_pass_35 : decode cX4_pass 35 = .ok (.getfield 222, 3) := by decide +kernel
theorem dX4_pass_38 : decode cX4_pass 38 = .ok (.iload_n 1, 1) := by decide +kernel
theorem dX4_pass_39 : decode cX4_pass 39 = .ok (.iadd, 1) := by decide +kernel
theorem dX4_pass_40 : decode cX4_pass 40 = .ok (.putfield 222, 3) := by decide +kernel
theorem dX4_pass_43 : decode cX4_pass 43 = .ok (.aload_n 0, 1) := by decide +kernel
theorem dX4_pass_44 : decode cX4_pass 44 = .ok (.getfield 25, 3) := by decide +kernel
theorem dX4_pass_47 : decode cX4_pass 47 = .ok (.getfield 222, 3) := by decide +kernel
theorem dX4_pass_50 : decode cX4_pass 50 = .ok (.ireturn, 1) := by decide +kernel
theorem dX4_today_0 : decode cX4_today 0 = .ok (.aload_n 0, 1) := by decide +kernel
theorem dX4_today_1 : decode cX4_today 1 = .ok (.getfield 25, 3) := by decide +kernel
theorem dX4_today_4 : decode cX4_today 4 = .ok (.getfield 222, 3) := by decide +kernel
theorem dX4_today_7 : decode cX4_today 7 = .ok (.ireturn, 1) := by decide +kernel
theorem dX4_bound_0 : decode cX4_bound 0 = .ok (.lconst 0, 1) := by decide +kernel
theorem dX4_bound_1 : decode cX4_bound 1 = .ok (.lstore_n 1, 1) := by decide +kernel
theorem dX4_bound_2 : decode cX4_bound 2 = .ok (.iconst 0, 1) := by decide +kernel
theorem dX4_bound_3 : decode cX4_bound 3 = .ok (.istore_n 3, 1) := by decide +kernel
theorem dX4_bound_4 : decode cX4_bound 4 = .ok (.iload_n 3, 1) := by decide +kernel
theorem dX4_bound_5 : decode cX4_bound 5 = .ok (.aload_n 0, 1) := by decide +kernel
theorem dX4_bound_6 : decode cX4_bound 6 = .ok (.getfield 16, 3) := by decide +kernel
theorem dX4_bound_9 : decode cX4_bound 9 = .ok (.invokeinterface 86 1, 5) := by decide +kernel
theorem dX4_bound_14 : decode cX4_bound 14 = .ok (.if_icmp .ge 41, 3) := by decide +kernel
theorem dX4_bound_17 : decode cX4_bound 17 = .ok (.aload_n 0, 1) := by decide +kernel
theorem dX4_bound_18 : decode cX4_bound 18 = .ok (.getfield 16, 3) := by decide +kernel
theorem dX4_bound_21 : decode cX4_bound 21 = .ok (.iload_n 3, 1) := by decide +kernel
theorem dX4_bound_22 : decode cX4_bound 22 = .ok (.invokeinterface 277 2, 5) := by decide +kernel
theorem dX4_bound_27 : decode cX4_bound 27 = .ok (.checkcast 192, 3) := by decide +kernel
theorem dX4_bound_30 : decode cX4_bound 30 = .ok (.astore 4, 2) := by decide +kernel
theorem dX4_bound_32 : decode cX4_bound 32 = .ok (.aload 4, 2) := by decide +kernel
theorem dX4_bound_34 : decode cX4_bound 34 = .ok (.invokevirtual 247, 3) := by decide +kernel
theorem dX4_bound_37 : decode cX4_bound 37 = .ok (.ifCond .eq 12, 3) := by decide +kernel
theorem dX4_bound_40 : decode cX4_bound 40 = .ok (.lload_n 1, 1) := by decide +kernel
theorem dX4_bound_41 : decode cX4_bound 41 = .ok (.aload 4, 2) := by decide +kernel
theorem dX4_bound_43 : decode cX4_bound 43 = .ok (.getfield 281, 3) := by decide +kernel
theorem dX4_bound_46 : decode cX4_bound 46 = .ok (.i2l, 1) := by decide +kernel
theorem dX4_bound_47 : decode cX4_bound 47 = .ok (.ladd, 1) := by decide +kernel
theorem dX4_bound_48 : decode cX4_bound 48 = .ok (.lstore_n 1, 1) := by decide +kernel
theorem dX4_bound_49 : decode cX4_bound 49 = .ok (.iinc 3 1, 3) := by decide +kernel
theorem dX4_bound_52 : decode cX4_bound 52 = .ok (.goto (-48), 3) := by decide +kernel
theorem dX4_bound_55 : decode cX4_bound 55 = .ok (.lload_n 1, 1) := by decide +kernel
theorem dX4_bound_56 : decode cX4_bound 56 = .ok (.lreturn, 1) := by decide +kernel
theorem dX4_standingShare_0 : decode cX4_standingShare 0 = .ok (.aload_n 0, 1) := by decide +kernel
theorem dX4_standingShare_1 : decode cX4_standingShare 1 = .ok (.getfield 16, 3) := by decide +kernel
theorem dX4_standingShare_4 : decode cX4_standingShare 4 = .ok (.invokeinterface 86 1, 5) := by decide +kernel
theorem dX4_standingShare_9 : decode cX4_standingShare 9 = .ok (.istore_n 1, 1) := by decide +kernel
theorem dX4_standingShare_10 : decode cX4_standingShare 10 = .ok (.iload_n 1, 1) := by decide +kernel
theorem dX4_standingShare_11 : decode cX4_standingShare 11 = .ok (.ifCond .ne 14, 3) := by decide +kernel
theorem dX4_standingShare_14 : decode cX4_standingShare 14 = .ok (.new 159, 3) := by decide +kernel
theorem dX4_standingShare_17 : decode cX4_standingShare 17 = .ok (.dup, 1) := by decide +kernel
theorem dX4_standingShare_18 : decode cX4_standingShare 18 = .ok (.ldc_w 284, 3) := by decide +kernel
theorem dX4_standingShare_21 : decode cX4_standingShare 21 = .ok (.invokespecial 163, 3) := by decide +kernel
theorem dX4_standingShare_24 : decode cX4_standingShare 24 = .ok (.athrow, 1) := by decide +kernel
theorem dX4_standingShare_25 : decode cX4_standingShare 25 = .ok (.iconst 0, 1) := by decide +kernel
theorem dX4_standingShare_26 : decode cX4_standingShare 26 = .ok (.istore_n 2, 1) := by decide +kernel
theorem dX4_standingShare_27 : decode cX4_standingShare 27 = .ok (.iconst 0, 1) := by decide +kernel
theorem dX4_standingShare_28 : decode cX4_standingShare 28 = .ok (.istore_n 3, 1) := by decide +kernel
theorem dX4_standingShare_29 : decode cX4_standingShare 29 = .ok (.iload_n 3, 1) := by decide +kernel
theorem dX4_standingShare_30 : decode cX4_standingShare 30 = .ok (.iload_n 1, 1) := by decide +kernel
theorem dX4_standingShare_31 : decode cX4_standingShare 31 = .ok (.if_icmp .ge 31, 3) := by decide +kernel
theorem dX4_standingShare_34 : decode cX4_standingShare 34 = .ok (.aload_n 0, 1) := by decide +kernel
theorem dX4_standingShare_35 : decode cX4_standingShare 35 = .ok (.getfield 16, 3) := by decide +kernel
theorem dX4_standingShare_38 : decode cX4_standingShare 38 = .ok (.iload_n 3, 1) := by decide +kernel
theorem dX4_standingShare_39 : decode cX4_standingShare 39 = .ok (.invokeinterface 277 2, 5) := by decide +kernel
theorem dX4_standingShare_44 : decode cX4_standingShare 44 = .ok (.checkcast 192, 3) := by decide +kernel
theorem dX4_standingShare_47 : decode cX4_standingShare 47 = .ok (.invokevirtual 247, 3) := by decide +kernel
theorem dX4_standingShare_50 : decode cX4_standingShare 50 = .ok (.ifCond .eq 6, 3) := by decide +kernel
theorem dX4_standingShare_53 : decode cX4_standingShare 53 = .ok (.iinc 2 1, 3) := by decide +kernel
theorem dX4_standingShare_56 : decode cX4_standingShare 56 = .ok (.iinc 3 1, 3) := by decide +kernel
theorem dX4_standingShare_59 : decode cX4_standingShare 59 = .ok (.goto (-30), 3) := by decide +kernel
theorem dX4_standingShare_62 : decode cX4_standingShare 62 = .ok (.iload_n 2, 1) := by decide +kernel
theorem dX4_standingShare_63 : decode cX4_standingShare 63 = .ok (.i2f, 1) := by decide +kernel
theorem dX4_standingShare_64 : decode cX4_standingShare 64 = .ok (.iload_n 1, 1) := by decide +kernel
theorem dX4_standingShare_65 : decode cX4_standingShare 65 = .ok (.i2f, 1) := by decide +kernel
theorem dX4_standingShare_66 : decode cX4_standingShare 66 = .ok (.fdiv, 1) := by decide +kernel
theorem dX4_standingShare_67 : decode cX4_standingShare 67 = .ok (.freturn, 1) := by decide +kernel
theorem dX4_isBetween_0 : decode cX4_isBetween 0 = .ok (.iload_n 0, 1) := by decide +kernel
theorem dX4_isBetween_1 : decode cX4_isBetween 1 = .ok (.iload_n 1, 1) := by decide +kernel
theorem dX4_isBetween_2 : decode cX4_isBetween 2 = .ok (.if_icmp .lt 12, 3) := by decide +kernel
theorem dX4_isBetween_5 : decode cX4_isBetween 5 = .ok (.iload_n 0, 1) := by decide +kernel
theorem dX4_isBetween_6 : decode cX4_isBetween 6 = .ok (.iload_n 2, 1) := by decide +kernel
theorem dX4_isBetween_7 : decode cX4_isBetween 7 = .ok (.if_icmp .gt 7, 3) := by decide +kernel
theorem dX4_isBetween_10 : decode cX4_isBetween 10 = .ok (.iconst 1, 1) := by decide +kernel
theorem dX4_isBetween_11 : decode cX4_isBetween 11 = .ok (.goto 4, 3) := by decide +kernel
theorem dX4_isBetween_14 : decode cX4_isBetween 14 = .ok (.iconst 0, 1) := by decide +kernel
theorem dX4_isBetween_15 : decode cX4_isBetween 15 = .ok (.ireturn, 1) := by decide +kernel
theorem dX4_isIndex_0 : decode cX4_isIndex 0 = .ok (.iload_n 0, 1) := by decide +kernel
theorem dX4_isIndex_1 : decode cX4_isIndex 1 = .ok (.ifCond .lt 12, 3) := by decide +kernel
theorem dX4_isIndex_4 : decode cX4_isIndex 4 = .ok (.iload_n 0, 1) := by decide +kernel
theorem dX4_isIndex_5 : decode cX4_isIndex 5 = .ok (.iload_n 1, 1) := by decide +kernel
theorem dX4_isIndex_6 : decode cX4_isIndex 6 = .ok (.if_icmp .ge 7, 3) := by decide +kernel
theorem dX4_isIndex_9 : decode cX4_isIndex 9 = .ok (.iconst 1, 1) := by decide +kernel
theorem dX4_isIndex_10 : decode cX4_isIndex 10 = .ok (.goto 4, 3) := by decide +kernel
theorem dX4_isIndex_13 : decode cX4_isIndex 13 = .ok (.iconst 0, 1) := by decide +kernel
theorem dX4_isIndex_14 : decode cX4_isIndex 14 = .ok (.ireturn, 1) := by decide +kernel
theorem dX4_requirePerson_0 : decode cX4_requirePerson 0 = .ok (.iload_n 1, 1) := by decide +kernel
theorem dX4_requirePerson_1 : decode cX4_requirePerson 1 = .ok (.aload_n 0, 1) := by decide +kernel
theorem dX4_requirePerson_2 : decode cX4_requirePerson 2 = .ok (.getfield 32, 3) := by decide +kernel
theorem dX4_requirePerson_5 : decode cX4_requirePerson 5 = .ok (.invokestatic 286, 3) := by decide +kernel
theorem dX4_requirePerson_8 : decode cX4_requirePerson 8 = .ok (.ifCond .ne 14, 3) := by decide +kernel
theorem dX4_requirePerson_11 : decode cX4_requirePerson 11 = .ok (.new 289, 3) := by decide +kernel
theorem dX4_requirePerson_14 : decode cX4_requirePerson 14 = .ok (.dup, 1) := by decide +kernel
theorem dX4_requirePerson_15 : decode cX4_requirePerson 15 = .ok (.ldc_w 291, 3) := by decide +kernel
theorem dX4_requirePerson_18 : decode cX4_requirePerson 18 = .ok (.invokespecial 293, 3) := by decide +kernel
theorem dX4_requirePerson_21 : decode cX4_requirePerson 21 = .ok (.athrow, 1) := by decide +kernel
theorem dX4_requirePerson_22 : decode cX4_requirePerson 22 = .ok (.return_, 1) := by decide +kernel
theorem dX4_findPower_0 : decode cX4_findPower 0 = .ok (.iload_n 1, 1) := by decide +kernel
theorem dX4_findPower_1 : decode cX4_findPower 1 = .ok (.aload_n 0, 1) := by decide +kernel
theorem dX4_findPower_2 : decode cX4_findPower 2 = .ok (.getfield 10, 3) := by decide +kernel
theorem dX4_findPower_5 : decode cX4_findPower 5 = .ok (.invokeinterface 86 1, 5) := by decide +kernel
theorem dX4_findPower_10 : decode cX4_findPower 10 = .ok (.invokestatic 286, 3) := by decide +kernel
theorem dX4_findPower_13 : decode cX4_findPower 13 = .ok (.ifCond .ne 14, 3) := by decide +kernel
theorem dX4_findPower_16 : decode cX4_findPower 16 = .ok (.new 289, 3) := by decide +kernel
theorem dX4_findPower_19 : decode cX4_findPower 19 = .ok (.dup, 1) := by decide +kernel
theorem dX4_findPower_20 : decode cX4_findPower 20 = .ok (.ldc_w 294, 3) := by decide +kernel
theorem dX4_findPower_23 : decode cX4_findPower 23 = .ok (.invokespecial 293, 3) := by decide +kernel
theorem dX4_findPower_26 : decode cX4_findPower 26 = .ok (.athrow, 1) := by decide +kernel
theorem dX4_findPower_27 : decode cX4_findPower 27 = .ok (.aload_n 0, 1) := by decide +kernel
theorem dX4_findPower_28 : decode cX4_findPower 28 = .ok (.getfield 10, 3) := by decide +kernel
theorem dX4_findPower_31 : decode cX4_findPower 31 = .ok (.iload_n 1, 1) := by decide +kernel
theorem dX4_findPower_32 : decode cX4_findPower 32 = .ok (.invokeinterface 277 2, 5) := by decide +kernel
theorem dX4_findPower_37 : decode cX4_findPower 37 = .ok (.checkcast 84, 3) := by decide +kernel
theorem dX4_findPower_40 : decode cX4_findPower 40 = .ok (.areturn, 1) := by decide +kernel
theorem dX4_findDeed_0 : decode cX4_findDeed 0 = .ok (.iload_n 1, 1) := by decide +kernel
theorem dX4_findDeed_1 : decode cX4_findDeed 1 = .ok (.aload_n 0, 1) := by decide +kernel
theorem dX4_findDeed_2 : decode cX4_findDeed 2 = .ok (.getfield 16, 3) := by decide +kernel
theorem dX4_findDeed_5 : decode cX4_findDeed 5 = .ok (.invokeinterface 86 1, 5) := by decide +kernel
theorem dX4_findDeed_10 : decode cX4_findDeed 10 = .ok (.invokestatic 286, 3) := by decide +kernel
theorem dX4_findDeed_13 : decode cX4_findDeed 13 = .ok (.ifCond .ne 14, 3) := by decide +kernel
theorem dX4_findDeed_16 : decode cX4_findDeed 16 = .ok (.new 289, 3) := by decide +kernel
theorem dX4_findDeed_19 : decode cX4_findDeed 19 = .ok (.dup, 1) := by decide +kernel
theorem dX4_findDeed_20 : decode cX4_findDeed 20 = .ok (.ldc_w 296, 3) := by decide +kernel
theorem dX4_findDeed_23 : decode cX4_findDeed 23 = .ok (.invokespecial 293, 3) := by decide +kernel
theorem dX4_findDeed_26 : decode cX4_findDeed 26 = .ok (.athrow, 1) := by decide +kernel
theorem dX4_findDeed_27 : decode cX4_findDeed 27 = .ok (.aload_n 0, 1) := by decide +kernel
theorem dX4_findDeed_28 : decode cX4_findDeed 28 = .ok (.getfield 16, 3) := by decide +kernel
theorem dX4_findDeed_31 : decode cX4_findDeed 31 = .ok (.iload_n 1, 1) := by decide +kernel
theorem dX4_findDeed_32 : decode cX4_findDeed 32 = .ok (.invokeinterface 277 2, 5) := by decide +kernel
theorem dX4_findDeed_37 : decode cX4_findDeed 37 = .ok (.checkcast 192, 3) := by decide +kernel
theorem dX4_findDeed_40 : decode cX4_findDeed 40 = .ok (.areturn, 1) := by decide +kernel
theorem dX4_requireKind_0 : decode cX4_requireKind 0 = .ok (.iload_n 0, 1) := by decide +kernel
theorem dX4_requireKind_1 : decode cX4_requireKind 1 = .ok (.iconst 0, 1) := by decide +kernel
theorem dX4_requireKind_2 : decode cX4_requireKind 2 = .ok (.iconst 3, 1) := by decide +kernel
theorem dX4_requireKind_3 : decode cX4_requireKind 3 = .ok (.invokestatic 133, 3) := by decide +kernel
theorem dX4_requireKind_6 : decode cX4_requireKind 6 = .ok (.ifCond .ne 14, 3) := by decide +kernel
theorem dX4_requireKind_9 : decode cX4_requireKind 9 = .ok (.new 47, 3) := by decide +kernel
theorem dX4_requireKind_12 : decode cX4_requireKind 12 = .ok (.dup, 1) := by decide +kernel
theorem dX4_requireKind_13 : decode cX4_requireKind 13 = .ok (.ldc_w 298, 3) := by decide +kernel
theorem dX4_requireKind_16 : decode cX4_requireKind 16 = .ok (.invokespecial 51, 3) := by decide +kernel
theorem dX4_requireKind_19 : decode cX4_requireKind 19 = .ok (.athrow, 1) := by decide +kernel
theorem dX4_requireKind_20 : decode cX4_requireKind 20 = .ok (.return_, 1) := by decide +kernel
theorem dX4_requireSum_0 : decode cX4_requireSum 0 = .ok (.iload_n 0, 1) := by decide +kernel
theorem dX4_requireSum_1 : decode cX4_requireSum 1 = .ok (.iconst 1, 1) := by decide +kernel
theorem dX4_requireSum_2 : decode cX4_requireSum 2 = .ok (.ldc_w 300, 3) := by decide +kernel
theorem dX4_requireSum_5 : decode cX4_requireSum 5 = .ok (.invokestatic 133, 3) := by decide +kernel
theorem dX4_requireSum_8 : decode cX4_requireSum 8 = .ok (.ifCond .ne 14, 3) := by decide +kernel
theorem dX4_requireSum_11 : decode cX4_requireSum 11 = .ok (.new 47, 3) := by decide +kernel
theorem dX4_requireSum_14 : decode cX4_requireSum 14 = .ok (.dup, 1) := by decide +kernel
theorem dX4_requireSum_15 : decode cX4_requireSum 15 = .ok (.ldc_w 301, 3) := by decide +kernel
theorem dX4_requireSum_18 : decode cX4_requireSum 18 = .ok (.invokespecial 51, 3) := by decide +kernel
theorem dX4_requireSum_21 : decode cX4_requireSum 21 = .ok (.athrow, 1) := by decide +kernel
theorem dX4_requireSum_22 : decode cX4_requireSum 22 = .ok (.return_, 1) := by decide +kernel
theorem dX4_requireLimitAndDays_0 : decode cX4_requireLimitAndDays 0 = .ok (.iload_n 0, 1) := by decide +kernel
theorem dX4_requireLimitAndDays_1 : decode cX4_requireLimitAndDays 1 = .ok (.iconst 1, 1) := by decide +kernel
theorem dX4_requireLimitAndDays_2 : decode cX4_requireLimitAndDays 2 = .ok (.ldc_w 300, 3) := by decide +kernel
theorem dX4_requireLimitAndDays_5 : decode cX4_requireLimitAndDays 5 = .ok (.invokestatic 133, 3) := by decide +kernel
theorem dX4_requireLimitAndDays_8 : decode cX4_requireLimitAndDays 8 = .ok (.ifCond .ne 14, 3) := by decide +kernel
theorem dX4_requireLimitAndDays_11 : decode cX4_requireLimitAndDays 11 = .ok (.new 47, 3) := by decide +kernel
theorem dX4_requireLimitAndDays_14 : decode cX4_requireLimitAndDays 14 = .ok (.dup, 1) := by decide +kernel
theorem dX4_requireLimitAndDays_15 : decode cX4_requireLimitAndDays 15 = .ok (.ldc_w 303, 3) := by decide +kernel
theorem dX4_requireLimitAndDays_18 : decode cX4_requireLimitAndDays 18 = .ok (.invokespecial 51, 3) := by decide +kernel
theorem dX4_requireLimitAndDays_21 : decode cX4_requireLimitAndDays 21 = .ok (.athrow, 1) := by decide +kernel
theorem dX4_requireLimitAndDays_22 : decode cX4_requireLimitAndDays 22 = .ok (.iload_n 1, 1) := by decide +kernel
theorem dX4_requireLimitAndDays_23 : decode cX4_requireLimitAndDays 23 = .ok (.iconst 0, 1) := by decide +kernel
theorem dX4_requireLimitAndDays_24 : decode cX4_requireLimitAndDays 24 = .ok (.sipush 999, 3) := by decide +kernel
theorem dX4_requireLimitAndDays_27 : decode cX4_requireLimitAndDays 27 = .ok (.invokestatic 133, 3) := by decide +kernel
theorem dX4_requireLimitAndDays_30 : decode cX4_requireLimitAndDays 30 = .ok (.ifCond .eq 14, 3) := by decide +kernel
theorem dX4_requireLimitAndDays_33 : decode cX4_requireLimitAndDays 33 = .ok (.iload_n 2, 1) := by decide +kernel
theorem dX4_requireLimitAndDays_34 : decode cX4_requireLimitAndDays 34 = .ok (.iload_n 1, 1) := by decide +kernel
theorem dX4_requireLimitAndDays_35 : decode cX4_requireLimitAndDays 35 = .ok (.sipush 999, 3) := by decide +kernel
theorem dX4_requireLimitAndDays_38 : decode cX4_requireLimitAndDays 38 = .ok (.invokestatic 133, 3) := by decide +kernel
theorem dX4_requireLimitAndDays_41 : decode cX4_requireLimitAndDays 41 = .ok (.ifCond .ne 14, 3) := by decide +kernel
theorem dX4_requireLimitAndDays_44 : decode cX4_requireLimitAndDays 44 = .ok (.new 47, 3) := by decide +kernel
theorem dX4_requireLimitAndDays_47 : decode cX4_requireLimitAndDays 47 = .ok (.dup, 1) := by decide +kernel
theorem dX4_requireLimitAndDays_48 : decode cX4_requireLimitAndDays 48 = .ok (.ldc_w 305, 3) := by decide +kernel
theorem dX4_requireLimitAndDays_51 : decode cX4_requireLimitAndDays 51 = .ok (.invokespecial 51, 3) := by decide +kernel
theorem dX4_requireLimitAndDays_54 : decode cX4_requireLimitAndDays 54 = .ok (.athrow, 1) := by decide +kernel
theorem dX4_requireLimitAndDays_55 : decode cX4_requireLimitAndDays 55 = .ok (.return_, 1) := by decide +kernel
theorem dX4_requireDealing_0 : decode cX4_requireDealing 0 = .ok (.iload_n 0, 1) := by decide +kernel
theorem dX4_requireDealing_1 : decode cX4_requireDealing 1 = .ok (.invokestatic 69, 3) := by decide +kernel
theorem dX4_requireDealing_4 : decode cX4_requireDealing 4 = .ok (.iload_n 2, 1) := by decide +kernel
theorem dX4_requireDealing_5 : decode cX4_requireDealing 5 = .ok (.iconst 0, 1) := by decide +kernel
theorem dX4_requireDealing_6 : decode cX4_requireDealing 6 = .ok (.bipush 9, 2) := by decide +kernel
theorem dX4_requireDealing_8 : decode cX4_requireDealing 8 = .ok (.invokestatic 133, 3) := by decide +kernel
theorem dX4_requireDealing_11 : decode cX4_requireDealing 11 = .ok (.ifCond .ne 14, 3) := by decide +kernel
theorem dX4_requireDealing_14 : decode cX4_requireDealing 14 = .ok (.new 47, 3) := by decide +kernel
theorem dX4_requireDealing_17 : decode cX4_requireDealing 17 = .ok (.dup, 1) := by decide +kernel
theorem dX4_requireDealing_18 : decode cX4_requireDealing 18 = .ok (.ldc_w 307, 3) := by decide +kernel
theorem dX4_requireDealing_21 : decode cX4_requireDealing 21 = .ok (.invokespecial 51, 3) := by decide +kernel
theorem dX4_requireDealing_24 : decode cX4_requireDealing 24 = .ok (.athrow, 1) := by decide +kernel
theorem dX4_requireDealing_25 : decode cX4_requireDealing 25 = .ok (.iload_n 1, 1) := by decide +kernel
theorem dX4_requireDealing_26 : decode cX4_requireDealing 26 = .ok (.iconst 1, 1) := by decide +kernel
theorem dX4_requireDealing_27 : decode cX4_requireDealing 27 = .ok (.sipush 9999, 3) := by decide +kernel
theorem dX4_requireDealing_30 : decode cX4_requireDealing 30 = .ok (.invokestatic 133, 3) := by decide +kernel
theorem dX4_requireDealing_33 : decode cX4_requireDealing 33 = .ok (.ifCond .ne 14, 3) := by decide +kernel
theorem dX4_requireDealing_36 : decode cX4_requireDealing 36 = .ok (.new 47, 3) := by decide +kernel
theorem dX4_requireDealing_39 : decode cX4_requireDealing 39 = .ok (.dup, 1) := by decide +kernel
theorem dX4_requireDealing_40 : decode cX4_requireDealing 40 = .ok (.ldc_w 309, 3) := by decide +kernel
theorem dX4_requireDealing_43 : decode cX4_requireDealing 43 = .ok (.invokespecial 51, 3) := by decide +kernel
theorem dX4_requireDealing_46 : decode cX4_requireDealing 46 = .ok (.athrow, 1) := by decide +kernel
theorem dX4_requireDealing_47 : decode cX4_requireDealing 47 = .ok (.return_, 1) := by decide +kernel
theorem dX4_requireDayCount_0 : decode cX4_requireDayCount 0 = .ok (.iload_n 0, 1) := by decide +kernel
theorem dX4_requireDayCount_1 : decode cX4_requireDayCount 1 = .ok (.iconst 1, 1) := by decide +kernel
theorem dX4_requireDayCount_2 : decode cX4_requireDayCount 2 = .ok (.bipush 99, 2) := by decide +kernel
theorem dX4_requireDayCount_4 : decode cX4_requireDayCount 4 = .ok (.invokestatic 133, 3) := by decide +kernel
theorem dX4_requireDayCount_7 : decode cX4_requireDayCount 7 = .ok (.ifCond .ne 14, 3) := by decide +kernel
theorem dX4_requireDayCount_10 : decode cX4_requireDayCount 10 = .ok (.new 47, 3) := by decide +kernel
theorem dX4_requireDayCount_13 : decode cX4_requireDayCount 13 = .ok (.dup, 1) := by decide +kernel
theorem dX4_requireDayCount_14 : decode cX4_requireDayCount 14 = .ok (.ldc_w 311, 3) := by decide +kernel
theorem dX4_requireDayCount_17 : decode cX4_requireDayCount 17 = .ok (.invokespecial 51, 3) := by decide +kernel
theorem dX4_requireDayCount_20 : decode cX4_requireDayCount 20 = .ok (.athrow, 1) := by decide +kernel
theorem dX4_requireDayCount_21 : decode cX4_requireDayCount 21 = .ok (.return_, 1) := by decide +kernel
theorem dX4_requireTwo_0 : decode cX4_requireTwo 0 = .ok (.iload_n 0, 1) := by decide +kernel
theorem dX4_requireTwo_1 : decode cX4_requireTwo 1 = .ok (.iload_n 1, 1) := by decide +kernel
theorem dX4_requireTwo_2 : decode cX4_requireTwo 2 = .ok (.if_icmp .ne 14, 3) := by decide +kernel
theorem dX4_requireTwo_5 : decode cX4_requireTwo 5 = .ok (.new 116, 3) := by decide +kernel
theorem dX4_requireTwo_8 : decode cX4_requireTwo 8 = .ok (.dup, 1) := by decide +kernel
theorem dX4_requireTwo_9 : decode cX4_requireTwo 9 = .ok (.ldc_w 313, 3) := by decide +kernel
theorem dX4_requireTwo_12 : decode cX4_requireTwo 12 = .ok (.invokespecial 120, 3) := by decide +kernel
theorem dX4_requireTwo_15 : decode cX4_requireTwo 15 = .ok (.athrow, 1) := by decide +kernel
theorem dX4_requireTwo_16 : decode cX4_requireTwo 16 = .ok (.return_, 1) := by decide +kernel
theorem dX4_requireRoomForPower_0 : decode cX4_requireRoomForPower 0 = .ok (.aload_n 0, 1) := by decide +kernel
theorem dX4_requireRoomForPower_1 : decode cX4_requireRoomForPower 1 = .ok (.getfield 10, 3) := by decide +kernel
theorem dX4_requireRoomForPower_4 : decode cX4_requireRoomForPower 4 = .ok (.invokeinterface 86 1, 5) := by decide +kernel
theorem dX4_requireRoomForPower_9 : decode cX4_requireRoomForPower 9 = .ok (.bipush 20, 2) := by decide +kernel
theorem dX4_requireRoomForPower_11 : decode cX4_requireRoomForPower 11 = .ok (.if_icmp .lt 14, 3) := by decide +kernel
theorem dX4_requireRoomForPower_14 : decode cX4_requireRoomForPower 14 = .ok (.new 36, 3) := by decide +kernel
theorem dX4_requireRoomForPower_17 : decode cX4_requireRoomForPower 17 = .ok (.dup, 1) := by decide +kernel
theorem dX4_requireRoomForPower_18 : decode cX4_requireRoomForPower 18 = .ok (.ldc_w 315, 3) := by decide +kernel
theorem dX4_requireRoomForPower_21 : decode cX4_requireRoomForPower 21 = .ok (.invokespecial 40, 3) := by decide +kernel
theorem dX4_requireRoomForPower_24 : decode cX4_requireRoomForPower 24 = .ok (.athrow, 1) := by decide +kernel
theorem dX4_requireRoomForPower_25 : decode cX4_requireRoomForPower 25 = .ok (.return_, 1) := by decide +kernel
theorem dX4_requireRoomForDeed_0 : decode cX4_requireRoomForDeed 0 = .ok (.aload_n 0, 1) := by decide +kernel
theorem dX4_requireRoomForDeed_1 : decode cX4_requireRoomForDeed 1 = .ok (.getfield 16, 3) := by decide +kernel
theorem dX4_requireRoomForDeed_4 : decode cX4_requireRoomForDeed 4 = .ok (.invokeinterface 86 1, 5) := by decide +kernel
theorem dX4_requireRoomForDeed_9 : decode cX4_requireRoomForDeed 9 = .ok (.bipush 24, 2) := by decide +kernel
theorem dX4_requireRoomForDeed_11 : decode cX4_requireRoomForDeed 11 = .ok (.if_icmp .lt 14, 3) := by decide +kernel
theorem dX4_requireRoomForDeed_14 : decode cX4_requireRoomForDeed 14 = .ok (.new 36, 3) := by decide +kernel
theorem dX4_requireRoomForDeed_17 : decode cX4_requireRoomForDeed 17 = .ok (.dup, 1) := by decide +kernel
theorem dX4_requireRoomForDeed_18 : decode cX4_requireRoomForDeed 18 = .ok (.ldc_w 317, 3) := by decide +kernel
theorem dX4_requireRoomForDeed_21 : decode cX4_requireRoomForDeed 21 = .ok (.invokespecial 40, 3) := by decide +kernel
theorem dX4_requireRoomForDeed_24 : decode cX4_requireRoomForDeed 24 = .ok (.athrow, 1) := by decide +kernel
theorem dX4_requireRoomForDeed_25 : decode cX4_requireRoomForDeed 25 = .ok (.return_, 1) := by decide +kernel
theorem dX4_requireWaiting_0 : decode cX4_requireWaiting 0 = .ok (.aload_n 0, 1) := by decide +kernel
theorem dX4_requireWaiting_1 : decode cX4_requireWaiting 1 = .ok (.getfield 215, 3) := by decide +kernel
theorem dX4_requireWaiting_4 : decode cX4_requireWaiting 4 = .ok (.bipush 119, 2) := by decide +kernel
theorem dX4_requireWaiting_6 : decode cX4_requireWaiting 6 = .ok (.if_icmp .eq 14, 3) := by decide +kernel
theorem dX4_requireWaiting_9 : decode cX4_requireWaiting 9 = .ok (.new 36, 3) := by decide +kernel
theorem dX4_requireWaiting_12 : decode cX4_requireWaiting 12 = .ok (.dup, 1) := by decide +kernel
theorem dX4_requireWaiting_13 : decode cX4_requireWaiting 13 = .ok (.ldc_w 319, 3) := by decide +kernel
theorem dX4_requireWaiting_16 : decode cX4_requireWaiting 16 = .ok (.invokespecial 40, 3) := by decide +kernel
theorem dX4_requireWaiting_19 : decode cX4_requireWaiting 19 = .ok (.athrow, 1) := by decide +kernel
theorem dX4_requireWaiting_20 : decode cX4_requireWaiting 20 = .ok (.return_, 1) := by decide +kernel
theorem dX4_requireLackingPower_0 : decode cX4_requireLackingPower 0 = .ok (.aload_n 0, 1) := by decide +kernel
theorem dX4_requireLackingPower_1 : decode cX4_requireLackingPower 1 = .ok (.getfield 255, 3) := by decide +kernel
theorem dX4_requireLackingPower_4 : decode cX4_requireLackingPower 4 = .ok (.bipush 45, 2) := by decide +kernel
theorem dX4_requireLackingPower_6 : decode cX4_requireLackingPower 6 = .ok (.if_icmp .eq 12, 3) := by decide +kernel
theorem dX4_requireLackingPower_9 : decode cX4_requireLackingPower 9 = .ok (.aload_n 0, 1) := by decide +kernel
theorem dX4_requireLackingPower_10 : decode cX4_requireLackingPower 10 = .ok (.getfield 255, 3) := by decide +kernel
theorem dX4_requireLackingPower_13 : decode cX4_requireLackingPower 13 = .ok (.bipush 107, 2) := by decide +kernel
theorem dX4_requireLackingPower_15 : decode cX4_requireLackingPower 15 = .ok (.if_icmp .ne 14, 3) := by decide +kernel
theorem dX4_requireLackingPower_18 : decode cX4_requireLackingPower 18 = .ok (.new 159, 3) := by decide +kernel
theorem dX4_requireLackingPower_21 : decode cX4_requireLackingPower 21 = .ok (.dup, 1) := by decide +kernel
theorem dX4_requireLackingPower_22 : decode cX4_requireLackingPower 22 = .ok (.ldc_w 321, 3) := by decide +kernel
theorem dX4_requireLackingPower_25 : decode cX4_requireLackingPower 25 = .ok (.invokespecial 163, 3) := by decide +kernel
theorem dX4_requireLackingPower_28 : decode cX4_requireLackingPower 28 = .ok (.athrow, 1) := by decide +kernel
theorem dX4_requireLackingPower_29 : decode cX4_requireLackingPower 29 = .ok (.return_, 1) := by decide +kernel
theorem dX4_tell_0 : decode cX4_tell 0 = .ok (.new 323, 3) := by decide +kernel
theorem dX4_tell_3 : decode cX4_tell 3 = .ok (.dup, 1) := by decide +kernel
theorem dX4_tell_4 : decode cX4_tell 4 = .ok (.iload_n 1, 1) := by decide +kernel
theorem dX4_tell_5 : decode cX4_tell 5 = .ok (.iload_n 2, 1) := by decide +kernel
theorem dX4_tell_6 : decode cX4_tell 6 = .ok (.iload_n 3, 1) := by decide +kernel
theorem dX4_tell_7 : decode cX4_tell 7 = .ok (.invokespecial 325, 3) := by decide +kernel
theorem dX4_tell_10 : decode cX4_tell 10 = .ok (.astore 4, 2) := by decide +kernel
theorem dX4_tell_12 : decode cX4_tell 12 = .ok (.aload_n 0, 1) := by decide +kernel
theorem dX4_tell_13 : decode cX4_tell 13 = .ok (.getfield 19, 3) := by decide +kernel
theorem dX4_tell_16 : decode cX4_tell 16 = .ok (.invokeinterface 86 1, 5) := by decide +kernel
theorem dX4_tell_21 : decode cX4_tell 21 = .ok (.sipush 512, 3) := by decide +kernel
theorem dX4_tell_24 : decode cX4_tell 24 = .ok (.if_icmp .ge 15, 3) := by decide +kernel
theorem dX4_tell_27 : decode cX4_tell 27 = .ok (.aload_n 0, 1) := by decide +kernel
theorem dX4_tell_28 : decode cX4_tell 28 = .ok (.getfield 19, 3) := by decide +kernel
theorem dX4_tell_31 : decode cX4_tell 31 = .ok (.aload 4, 2) := by decide +kernel
theorem dX4_tell_33 : decode cX4_tell 33 = .ok (.invokeinterface 327 2, 5) := by decide +kernel
theorem dX4_tell_38 : decode cX4_tell 38 = .ok (.pop, 1) := by decide +kernel
theorem dX4_tell_39 : decode cX4_tell 39 = .ok (.aload_n 0, 1) := by decide +kernel
theorem dX4_tell_40 : decode cX4_tell 40 = .ok (.getfield 25, 3) := by decide +kernel
theorem dX4_tell_43 : decode cX4_tell 43 = .ok (.aload 4, 2) := by decide +kernel
theorem dX4_tell_45 : decode cX4_tell 45 = .ok (.invokevirtual 331, 3) := by decide +kernel
theorem dX4_tell_48 : decode cX4_tell 48 = .ok (.return_, 1) := by decide +kernel
theorem dX4_lookBack_0 : decode cX4_lookBack 0 = .ok (.aload_n 0, 1) := by decide +kernel
theorem dX4_lookBack_1 : decode cX4_lookBack 1 = .ok (.getfield 29, 3) := by decide +kernel
theorem dX4_lookBack_4 : decode cX4_lookBack 4 = .ok (.invokevirtual 335, 3) := by decide +kernel
theorem dX4_lookBack_7 : decode cX4_lookBack 7 = .ok (.aload_n 0, 1) := by decide +kernel
theorem dX4_lookBack_8 : decode cX4_lookBack 8 = .ok (.getfield 29, 3) := by decide +kernel
theorem dX4_lookBack_11 : decode cX4_lookBack 11 = .ok (.iload_n 2, 1) := by decide +kernel
theorem dX4_lookBack_12 : decode cX4_lookBack 12 = .ok (.putfield 222, 3) := by decide +kernel
theorem dX4_lookBack_15 : decode cX4_lookBack 15 = .ok (.iconst 0, 1) := by decide +kernel
theorem dX4_lookBack_16 : decode cX4_lookBack 16 = .ok (.istore_n 3, 1) := by decide +kernel
theorem dX4_lookBack_17 : decode cX4_lookBack 17 = .ok (.iload_n 3, 1) := by decide +kernel
theorem dX4_lookBack_18 : decode cX4_lookBack 18 = .ok (.iload_n 1, 1) := by decide +kernel
theorem dX4_lookBack_19 : decode cX4_lookBack 19 = .ok (.if_icmp .ge 42, 3) := by decide +kernel
theorem dX4_lookBack_22 : decode cX4_lookBack 22 = .ok (.iload_n 3, 1) := by decide +kernel
theorem dX4_lookBack_23 : decode cX4_lookBack 23 = .ok (.aload_n 0, 1) := by decide +kernel
theorem dX4_lookBack_24 : decode cX4_lookBack 24 = .ok (.getfield 19, 3) := by decide +kernel
theorem dX4_lookBack_27 : decode cX4_lookBack 27 = .ok (.invokeinterface 86 1, 5) := by decide +kernel
theorem dX4_lookBack_32 : decode cX4_lookBack 32 = .ok (.if_icmp .ge 29, 3) := by decide +kernel
theorem dX4_lookBack_35 : decode cX4_lookBack 35 = .ok (.aload_n 0, 1) := by decide +kernel
theorem dX4_lookBack_36 : decode cX4_lookBack 36 = .ok (.getfield 29, 3) := by decide +kernel
theorem dX4_lookBack_39 : decode cX4_lookBack 39 = .ok (.aload_n 0, 1) := by decide +kernel
theorem dX4_lookBack_40 : decode cX4_lookBack 40 = .ok (.getfield 19, 3) := by decide +kernel
theorem dX4_lookBack_43 : decode cX4_lookBack 43 = .ok (.iload_n 3, 1) := by decide +kernel
theorem dX4_lookBack_44 : decode cX4_lookBack 44 = .ok (.invokeinterface 277 2, 5) := by decide +kernel
theorem dX4_lookBack_49 : decode cX4_lookBack 49 = .ok (.checkcast 323, 3) := by decide +kernel
theorem dX4_lookBack_52 : decode cX4_lookBack 52 = .ok (.invokevirtual 331, 3) := by decide +kernel
theorem dX4_lookBack_55 : decode cX4_lookBack 55 = .ok (.iinc 3 1, 3) := by decide +kernel
theorem dX4_lookBack_58 : decode cX4_lookBack 58 = .ok (.goto (-41), 3) := by decide +kernel
theorem dX4_lookBack_61 : decode cX4_lookBack 61 = .ok (.return_, 1) := by decide +kernel
theorem dX4_bitOfHand_0 : decode cX4_bitOfHand 0 = .ok (.iload_n 0, 1) := by decide +kernel
theorem dX4_bitOfHand_1 : decode cX4_bitOfHand 1 = .ok (.bipush 115, 2) := by decide +kernel
theorem dX4_bitOfHand_3 : decode cX4_bitOfHand 3 = .ok (.if_icmp .ne 5, 3) := by decide +kernel
theorem dX4_bitOfHand_6 : decode cX4_bitOfHand 6 = .ok (.iconst 1, 1) := by decide +kernel
theorem dX4_bitOfHand_7 : decode cX4_bitOfHand 7 = .ok (.ireturn, 1) := by decide +kernel
theorem dX4_bitOfHand_8 : decode cX4_bitOfHand 8 = .ok (.iload_n 0, 1) := by decide +kernel
theorem dX4_bitOfHand_9 : decode cX4_bitOfHand 9 = .ok (.bipush 97, 2) := by decide +kernel
theorem dX4_bitOfHand_11 : decode cX4_bitOfHand 11 = .ok (.if_icmp .ne 5, 3) := by decide +kernel
theorem dX4_bitOfHand_14 : decode cX4_bitOfHand 14 = .ok (.iconst 2, 1) := by decide +kernel
theorem dX4_bitOfHand_15 : decode cX4_bitOfHand 15 = .ok (.ireturn, 1) := by decide +kernel
theorem dX4_bitOfHand_16 : decode cX4_bitOfHand 16 = .ok (.iload_n 0, 1) := by decide +kernel
theorem dX4_bitOfHand_17 : decode cX4_bitOfHand 17 = .ok (.bipush 98, 2) := by decide +kernel
theorem dX4_bitOfHand_19 : decode cX4_bitOfHand 19 = .ok (.if_icmp .ne 7, 3) := by decide +kernel
theorem dX4_bitOfHand_22 : decode cX4_bitOfHand 22 = .ok (.iconst 4, 1) := by decide +kernel
theorem dX4_bitOfHand_23 : decode cX4_bitOfHand 23 = .ok (.goto 4, 3) := by decide +kernel
theorem dX4_bitOfHand_26 : decode cX4_bitOfHand 26 = .ok (.iconst 0, 1) := by decide +kernel
theorem dX4_bitOfHand_27 : decode cX4_bitOfHand 27 = .ok (.ireturn, 1) := by decide +kernel
theorem dX4_keepPower_0 : decode cX4_keepPower 0 = .ok (.aload_n 0, 1) := by decide +kernel
theorem dX4_keepPower_1 : decode cX4_keepPower 1 = .ok (.getfield 10, 3) := by decide +kernel
theorem dX4_keepPower_4 : decode cX4_keepPower 4 = .ok (.aload_n 1, 1) := by decide +kernel
theorem dX4_keepPower_5 : decode cX4_keepPower 5 = .ok (.invokeinterface 327 2, 5) := by decide +kernel
theorem dX4_keepPower_10 : decode cX4_keepPower 10 = .ok (.pop, 1) := by decide +kernel
theorem dX4_keepPower_11 : decode cX4_keepPower 11 = .ok (.aload_n 0, 1) := by decide +kernel
theorem dX4_keepPower_12 : decode cX4_keepPower 12 = .ok (.iconst 0, 1) := by decide +kernel
theorem dX4_keepPower_13 : decode cX4_keepPower 13 = .ok (.aload_n 1, 1) := by decide +kernel
theorem dX4_keepPower_14 : decode cX4_keepPower 14 = .ok (.getfield 146, 3) := by decide +kernel
theorem dX4_keepPower_17 : decode cX4_keepPower 17 = .ok (.iload_n 2, 1) := by decide +kernel
theorem dX4_keepPower_18 : decode cX4_keepPower 18 = .ok (.invokevirtual 56, 3) := by decide +kernel
theorem dX4_keepPower_21 : decode cX4_keepPower 21 = .ok (.aload_n 1, 1) := by decide +kernel
theorem dX4_keepPower_22 : decode cX4_keepPower 22 = .ok (.getfield 146, 3) := by decide +kernel
theorem dX4_keepPower_25 : decode cX4_keepPower 25 = .ok (.ireturn, 1) := by decide +kernel
theorem dX4_countPowersFrom_0 : decode cX4_countPowersFrom 0 = .ok (.iconst 0, 1) := by decide +kernel
theorem dX4_countPowersFrom_1 : decode cX4_countPowersFrom 1 = .ok (.istore_n 2, 1) := by decide +kernel
theorem dX4_countPowersFrom_2 : decode cX4_countPowersFrom 2 = .ok (.iconst 0, 1) := by decide +kernel
theorem dX4_countPowersFrom_3 : decode cX4_countPowersFrom 3 = .ok (.istore_n 3, 1) := by decide +kernel
theorem dX4_countPowersFrom_4 : decode cX4_countPowersFrom 4 = .ok (.iload_n 3, 1) := by decide +kernel
theorem dX4_countPowersFrom_5 : decode cX4_countPowersFrom 5 = .ok (.aload_n 0, 1) := by decide +kernel
theorem dX4_countPowersFrom_6 : decode cX4_countPowersFrom 6 = .ok (.getfield 10, 3) := by decide +kernel
theorem dX4_countPowersFrom_9 : decode cX4_countPowersFrom 9 = .ok (.invokeinterface 86 1, 5) := by decide +kernel
theorem dX4_countPowersFrom_14 : decode cX4_countPowersFrom 14 = .ok (.if_icmp .ge 32, 3) := by decide +kernel
theorem dX4_countPowersFrom_17 : decode cX4_countPowersFrom 17 = .ok (.aload_n 0, 1) := by decide +kernel
theorem dX4_countPowersFrom_18 : decode cX4_countPowersFrom 18 = .ok (.getfield 10, 3) := by decide +kernel
theorem dX4_countPowersFrom_21 : decode cX4_countPowersFrom 21 = .ok (.iload_n 3, 1) := by decide +kernel
theorem dX4_countPowersFrom_22 : decode cX4_countPowersFrom 22 = .ok (.invokeinterface 277 2, 5) := by decide +kernel
theorem dX4_countPowersFrom_27 : decode cX4_countPowersFrom 27 = .ok (.checkcast 84, 3) := by decide +kernel
theorem dX4_countPowersFrom_30 : decode cX4_countPowersFrom 30 = .ok (.aload_n 1, 1) := by decide +kernel
theorem dX4_countPowersFrom_31 : decode cX4_countPowersFrom 31 = .ok (.invokevirtual 338, 3) := by decide +kernel
theorem dX4_countPowersFrom_34 : decode cX4_countPowersFrom 34 = .ok (.ifCond .eq 6, 3) := by decide +kernel
theorem dX4_countPowersFrom_37 : decode cX4_countPowersFrom 37 = .ok (.iinc 2 1, 3) := by decide +kernel
theorem dX4_countPowersFrom_40 : decode cX4_countPowersFrom 40 = .ok (.iinc 3 1, 3) := by decide +kernel
theorem dX4_countPowersFrom_43 : decode cX4_countPowersFrom 43 = .ok (.goto (-39), 3) := by decide +kernel
theorem dX4_countPowersFrom_46 : decode cX4_countPowersFrom 46 = .ok (.iload_n 2, 1) := by decide +kernel
theorem dX4_countPowersFrom_47 : decode cX4_countPowersFrom 47 = .ok (.ireturn, 1) := by decide +kernel
theorem dX4_substituteOrNone_0 : decode cX4_substituteOrNone 0 = .ok (.aload_n 0, 1) := by decide +kernel
theorem dX4_substituteOrNone_1 : decode cX4_substituteOrNone 1 = .ok (.getfield 25, 3) := by decide +kernel
theorem dX4_substituteOrNone_4 : decode cX4_substituteOrNone 4 = .ok (.iload_n 1, 1) := by decide +kernel
theorem dX4_substituteOrNone_5 : decode cX4_substituteOrNone 5 = .ok (.invokevirtual 60, 3) := by decide +kernel
theorem dX4_substituteOrNone_8 : decode cX4_substituteOrNone 8 = .ok (.istore_n 2, 1) := by decide +kernel
theorem dX4_substituteOrNone_9 : decode cX4_substituteOrNone 9 = .ok (.iload_n 2, 1) := by decide +kernel
theorem dX4_substituteOrNone_10 : decode cX4_substituteOrNone 10 = .ok (.bipush (-2), 2) := by decide +kernel
theorem dX4_substituteOrNone_12 : decode cX4_substituteOrNone 12 = .ok (.if_icmp .ne 7, 3) := by decide +kernel
theorem dX4_substituteOrNone_15 : decode cX4_substituteOrNone 15 = .ok (.iconst (-1), 1) := by decide +kernel
theorem dX4_substituteOrNone_16 : decode cX4_substituteOrNone 16 = .ok (.goto 4, 3) := by decide +kernel
theorem dX4_substituteOrNone_19 : decode cX4_substituteOrNone 19 = .ok (.iload_n 2, 1) := by decide +kernel
theorem dX4_substituteOrNone_20 : decode cX4_substituteOrNone 20 = .ok (.ireturn, 1) := by decide +kernel
theorem dX4_handsOf_0 : decode cX4_handsOf 0 = .ok (.iconst 0, 1) := by decide +kernel
theorem dX4_handsOf_1 : decode cX4_handsOf 1 = .ok (.istore 5, 2) := by decide +kernel
theorem dX4_handsOf_3 : decode cX4_handsOf 3 = .ok (.iconst 0, 1) := by decide +kernel
theorem dX4_handsOf_4 : decode cX4_handsOf 4 = .ok (.istore 6, 2) := by decide +kernel
theorem dX4_handsOf_6 : decode cX4_handsOf 6 = .ok (.iload 6, 2) := by decide +kernel
theorem dX4_handsOf_8 : decode cX4_handsOf 8 = .ok (.aload_n 0, 1) := by decide +kernel
theorem dX4_handsOf_9 : decode cX4_handsOf 9 = .ok (.getfield 10, 3) := by decide +kernel
theorem dX4_handsOf_12 : decode cX4_handsOf 12 = .ok (.invokeinterface 86 1, 5) := by decide +kernel
theorem dX4_handsOf_17 : decode cX4_handsOf 17 = .ok (.if_icmp .ge 71, 3) := by decide +kernel
theorem dX4_handsOf_20 : decode cX4_handsOf 20 = .ok (.aload_n 0, 1) := by decide +kernel
theorem dX4_handsOf_21 : decode cX4_handsOf 21 = .ok (.getfield 10, 3) := by decide +kernel
theorem dX4_handsOf_24 : decode cX4_handsOf 24 = .ok (.iload 6, 2) := by decide +kernel
theorem dX4_handsOf_26 : decode cX4_handsOf 26 = .ok (.invokeinterface 277 2, 5) := by decide +kernel
theorem dX4_handsOf_31 : decode cX4_handsOf 31 = .ok (.checkcast 84, 3) := by decide +kernel
theorem dX4_handsOf_34 : decode cX4_handsOf 34 = .ok (.astore 7, 2) := by decide +kernel
theorem dX4_handsOf_36 : decode cX4_handsOf 36 = .ok (.aload 7, 2) := by decide +kernel
theorem dX4_handsOf_38 : decode cX4_handsOf 38 = .ok (.getfield 127, 3) := by decide +kernel
theorem dX4_handsOf_41 : decode cX4_handsOf 41 = .ok (.iload_n 2, 1) := by decide +kernel
theorem dX4_handsOf_42 : decode cX4_handsOf 42 = .ok (.if_icmp .ne 40, 3) := by decide +kernel
theorem dX4_handsOf_45 : decode cX4_handsOf 45 = .ok (.aload 4, 2) := by decide +kernel
theorem dX4_handsOf_47 : decode cX4_handsOf 47 = .ok (.iload_n 1, 1) := by decide +kernel
theorem dX4_handsOf_48 : decode cX4_handsOf 48 = .ok (.aload 7, 2) := by decide +kernel
theorem dX4_handsOf_50 : decode cX4_handsOf 50 = .ok (.getfield 103, 3) := by decide +kernel
theorem dX4_handsOf_53 : decode cX4_handsOf 53 = .ok (.invokevirtual 65, 3) := by decide +kernel
theorem dX4_handsOf_56 : decode cX4_handsOf 56 = .ok (.ifCond .eq 26, 3) := by decide +kernel
theorem dX4_handsOf_59 : decode cX4_handsOf 59 = .ok (.aload 4, 2) := by decide +kernel
theorem dX4_handsOf_61 : decode cX4_handsOf 61 = .ok (.aload 7, 2) := by decide +kernel
theorem dX4_handsOf_63 : decode cX4_handsOf 63 = .ok (.iload_n 3, 1) := by decide +kernel
theorem dX4_handsOf_64 : decode cX4_handsOf 64 = .ok (.invokevirtual 152, 3) := by decide +kernel
theorem dX4_handsOf_67 : decode cX4_handsOf 67 = .ok (.bipush 45, 2) := by decide +kernel
theorem dX4_handsOf_69 : decode cX4_handsOf 69 = .ok (.if_icmp .ne 13, 3) := by decide +kernel
theorem dX4_handsOf_72 : decode cX4_handsOf 72 = .ok (.iload 5, 2) := by decide +kernel
theorem dX4_handsOf_74 : decode cX4_handsOf 74 = .ok (.aload 7, 2) := by decide +kernel
theorem dX4_handsOf_76 : decode cX4_handsOf 76 = .ok (.getfield 130, 3) := by decide +kernel
theorem dX4_handsOf_79 : decode cX4_handsOf 79 = .ok (.ior, 1) := by decide +kernel
theorem dX4_handsOf_80 : decode cX4_handsOf 80 = .ok (.istore 5, 2) := by decide +kernel
theorem dX4_handsOf_82 : decode cX4_handsOf 82 = .ok (.iinc 6 1, 3) := by decide +kernel
theorem dX4_handsOf_85 : decode cX4_handsOf 85 = .ok (.goto (-79), 3) := by decide +kernel
theorem dX4_handsOf_88 : decode cX4_handsOf 88 = .ok (.iload 5, 2) := by decide +kernel
theorem dX4_handsOf_90 : decode cX4_handsOf 90 = .ok (.ireturn, 1) := by decide +kernel
theorem dX4_signsAlone_0 : decode cX4_signsAlone 0 = .ok (.aload_n 0, 1) := by decide +kernel
theorem dX4_signsAlone_1 : decode cX4_signsAlone 1 = .ok (.iload_n 1, 1) := by decide +kernel
theorem dX4_signsAlone_2 : decode cX4_signsAlone 2 = .ok (.iload_n 2, 1) := by decide +kernel
theorem dX4_signsAlone_3 : decode cX4_signsAlone 3 = .ok (.iload_n 3, 1) := by decide +kernel
theorem dX4_signsAlone_4 : decode cX4_signsAlone 4 = .ok (.aload 4, 2) := by decide +kernel
theorem dX4_signsAlone_6 : decode cX4_signsAlone 6 = .ok (.invokevirtual 179, 3) := by decide +kernel
theorem dX4_signsAlone_9 : decode cX4_signsAlone 9 = .ok (.iconst 0, 1) := by decide +kernel
theorem dX4_signsAlone_10 : decode cX4_signsAlone 10 = .ok (.invokestatic 341, 3) := by decide +kernel
theorem dX4_signsAlone_13 : decode cX4_signsAlone 13 = .ok (.ireturn, 1) := by decide +kernel
theorem dX4_signTwo_0 : decode cX4_signTwo 0 = .ok (.aload_n 0, 1) := by decide +kernel
theorem dX4_signTwo_1 : decode cX4_signTwo 1 = .ok (.iload_n 1, 1) := by decide +kernel
theorem dX4_signTwo_2 : decode cX4_signTwo 2 = .ok (.iload_n 3, 1) := by decide +kernel
theorem dX4_signTwo_3 : decode cX4_signTwo 3 = .ok (.iload 4, 2) := by decide +kernel
theorem dX4_signTwo_5 : decode cX4_signTwo 5 = .ok (.aload_n 0, 1) := by decide +kernel
theorem dX4_signTwo_6 : decode cX4_signTwo 6 = .ok (.getfield 25, 3) := by decide +kernel
theorem dX4_signTwo_9 : decode cX4_signTwo 9 = .ok (.invokevirtual 179, 3) := by decide +kernel
theorem dX4_signTwo_12 : decode cX4_signTwo 12 = .ok (.aload_n 0, 1) := by decide +kernel
theorem dX4_signTwo_13 : decode cX4_signTwo 13 = .ok (.iload_n 2, 1) := by decide +kernel
theorem dX4_signTwo_14 : decode cX4_signTwo 14 = .ok (.iload_n 3, 1) := by decide +kernel
theorem dX4_signTwo_15 : decode cX4_signTwo 15 = .ok (.iload 4, 2) := by decide +kernel
theorem dX4_signTwo_17 : decode cX4_signTwo 17 = .ok (.aload_n 0, 1) := by decide +kernel
theorem dX4_signTwo_18 : decode cX4_signTwo 18 = .ok (.getfield 25, 3) := by decide +kernel
theorem dX4_signTwo_21 : decode cX4_signTwo 21 = .ok (.invokevirtual 179, 3) := by decide +kernel
theorem dX4_signTwo_24 : decode cX4_signTwo 24 = .ok (.invokestatic 341, 3) := by decide +kernel
theorem dX4_signTwo_27 : decode cX4_signTwo 27 = .ok (.ireturn, 1) := by decide +kernel
theorem dX4_suffice_0 : decode cX4_suffice 0 = .ok (.iload_n 0, 1) := by decide +kernel
theorem dX4_suffice_1 : decode cX4_suffice 1 = .ok (.iload_n 1, 1) := by decide +kernel
theorem dX4_suffice_2 : decode cX4_suffice 2 = .ok (.ior, 1) := by decide +kernel
theorem dX4_suffice_3 : decode cX4_suffice 3 = .ok (.iconst 1, 1) := by decide +kernel
theorem dX4_suffice_4 : decode cX4_suffice 4 = .ok (.iand, 1) := by decide +kernel
theorem dX4_suffice_5 : decode cX4_suffice 5 = .ok (.ifCond .ne 27, 3) := by decide +kernel
theorem dX4_suffice_8 : decode cX4_suffice 8 = .ok (.iload_n 0, 1) := by decide +kernel
theorem dX4_suffice_9 : decode cX4_suffice 9 = .ok (.iconst 2, 1) := by decide +kernel
theorem dX4_suffice_10 : decode cX4_suffice 10 = .ok (.iand, 1) := by decide +kernel
theorem dX4_suffice_11 : decode cX4_suffice 11 = .ok (.ifCond .eq 9, 3) := by decide +kernel
theorem dX4_suffice_14 : decode cX4_suffice 14 = .ok (.iload_n 1, 1) := by decide +kernel
theorem dX4_suffice_15 : decode cX4_suffice 15 = .ok (.iconst 4, 1) := by decide +kernel
theorem dX4_suffice_16 : decode cX4_suffice 16 = .ok (.iand, 1) := by decide +kernel
theorem dX4_suffice_17 : decode cX4_suffice 17 = .ok (.ifCond .ne 15, 3) := by decide +kernel
theorem dX4_suffice_20 : decode cX4_suffice 20 = .ok (.iload_n 0, 1) := by decide +kernel
theorem dX4_suffice_21 : decode cX4_suffice 21 = .ok (.iconst 4, 1) := by decide +kernel
theorem dX4_suffice_22 : decode cX4_suffice 22 = .ok (.iand, 1) := by decide +kernel
theorem dX4_suffice_23 : decode cX4_suffice 23 = .ok (.ifCond .eq 13, 3) := by decide +kernel
theorem dX4_suffice_26 : decode cX4_suffice 26 = .ok (.iload_n 1, 1) := by decide +kernel
theorem dX4_suffice_27 : decode cX4_suffice 27 = .ok (.iconst 2, 1) := by decide +kernel
theorem dX4_suffice_28 : decode cX4_suffice 28 = .ok (.iand, 1) := by decide +kernel
theorem dX4_suffice_29 : decode cX4_suffice 29 = .ok (.ifCond .eq 7, 3) := by decide +kernel
theorem dX4_suffice_32 : decode cX4_suffice 32 = .ok (.iconst 1, 1) := by decide +kernel
theorem dX4_suffice_33 : decode cX4_suffice 33 = .ok (.goto 4, 3) := by decide +kernel
theorem dX4_suffice_36 : decode cX4_suffice 36 = .ok (.iconst 0, 1) := by decide +kernel
theorem dX4_suffice_37 : decode cX4_suffice 37 = .ok (.ireturn, 1) := by decide +kernel
theorem dX4_pairsAmong_0 : decode cX4_pairsAmong 0 = .ok (.iload_n 0, 1) := by decide +kernel
theorem dX4_pairsAmong_1 : decode cX4_pairsAmong 1 = .ok (.iload_n 0, 1) := by decide +kernel
theorem dX4_pairsAmong_2 : decode cX4_pairsAmong 2 = .ok (.iconst 1, 1) := by decide +kernel
theorem dX4_pairsAmong_3 : decode cX4_pairsAmong 3 = .ok (.isub, 1) := by decide +kernel
theorem dX4_pairsAmong_4 : decode cX4_pairsAmong 4 = .ok (.imul, 1) := by decide +kernel
theorem dX4_pairsAmong_5 : decode cX4_pairsAmong 5 = .ok (.iconst 2, 1) := by decide +kernel
theorem dX4_pairsAmong_6 : decode cX4_pairsAmong 6 = .ok (.idiv, 1) := by decide +kernel
theorem dX4_pairsAmong_7 : decode cX4_pairsAmong 7 = .ok (.ireturn, 1) := by decide +kernel
theorem dX4_keepDeed_0 : decode cX4_keepDeed 0 = .ok (.aload_n 1, 1) := by decide +kernel
theorem dX4_keepDeed_1 : decode cX4_keepDeed 1 = .ok (.aload_n 0, 1) := by decide +kernel
theorem dX4_keepDeed_2 : decode cX4_keepDeed 2 = .ok (.getfield 25, 3) := by decide +kernel
theorem dX4_keepDeed_5 : decode cX4_keepDeed 5 = .ok (.getfield 222, 3) := by decide +kernel
theorem dX4_keepDeed_8 : decode cX4_keepDeed 8 = .ok (.putfield 237, 3) := by decide +kernel
theorem dX4_keepDeed_11 : decode cX4_keepDeed 11 = .ok (.aload_n 1, 1) := by decide +kernel
theorem dX4_keepDeed_12 : decode cX4_keepDeed 12 = .ok (.aload_n 0, 1) := by decide +kernel
theorem dX4_keepDeed_13 : decode cX4_keepDeed 13 = .ok (.getfield 19, 3) := by decide +kernel
theorem dX4_keepDeed_16 : decode cX4_keepDeed 16 = .ok (.invokeinterface 86 1, 5) := by decide +kernel
theorem dX4_keepDeed_21 : decode cX4_keepDeed 21 = .ok (.putfield 234, 3) := by decide +kernel
theorem dX4_keepDeed_24 : decode cX4_keepDeed 24 = .ok (.aload_n 1, 1) := by decide +kernel
theorem dX4_keepDeed_25 : decode cX4_keepDeed 25 = .ok (.aload_n 0, 1) := by decide +kernel
theorem dX4_keepDeed_26 : decode cX4_keepDeed 26 = .ok (.aload_n 1, 1) := by decide +kernel
theorem dX4_keepDeed_27 : decode cX4_keepDeed 27 = .ok (.aload_n 0, 1) := by decide +kernel
theorem dX4_keepDeed_28 : decode cX4_keepDeed 28 = .ok (.getfield 25, 3) := by decide +kernel
theorem dX4_keepDeed_31 : decode cX4_keepDeed 31 = .ok (.invokevirtual 243, 3) := by decide +kernel
theorem dX4_keepDeed_34 : decode cX4_keepDeed 34 = .ok (.putfield 210, 3) := by decide +kernel
theorem dX4_keepDeed_37 : decode cX4_keepDeed 37 = .ok (.aload_n 0, 1) := by decide +kernel
theorem dX4_keepDeed_38 : decode cX4_keepDeed 38 = .ok (.aload_n 1, 1) := by decide +kernel
theorem dX4_keepDeed_39 : decode cX4_keepDeed 39 = .ok (.aload_n 1, 1) := by decide +kernel
theorem dX4_keepDeed_40 : decode cX4_keepDeed 40 = .ok (.getfield 210, 3) := by decide +kernel
theorem dX4_keepDeed_43 : decode cX4_keepDeed 43 = .ok (.aload_n 0, 1) := by decide +kernel
theorem dX4_keepDeed_44 : decode cX4_keepDeed 44 = .ok (.getfield 25, 3) := by decide +kernel
theorem dX4_keepDeed_47 : decode cX4_keepDeed 47 = .ok (.invokevirtual 251, 3) := by decide +kernel
theorem dX4_keepDeed_50 : decode cX4_keepDeed 50 = .ok (.ifCond .eq 12, 3) := by decide +kernel
theorem dX4_keepDeed_53 : decode cX4_keepDeed 53 = .ok (.aload_n 1, 1) := by decide +kernel
theorem dX4_keepDeed_54 : decode cX4_keepDeed 54 = .ok (.bipush 115, 2) := by decide +kernel
theorem dX4_keepDeed_56 : decode cX4_keepDeed 56 = .ok (.putfield 215, 3) := by decide +kernel
theorem dX4_keepDeed_59 : decode cX4_keepDeed 59 = .ok (.goto 14, 3) := by decide +kernel
theorem dX4_keepDeed_62 : decode cX4_keepDeed 62 = .ok (.aload_n 1, 1) := by decide +kernel
theorem dX4_keepDeed_63 : decode cX4_keepDeed 63 = .ok (.bipush 119, 2) := by decide +kernel
theorem dX4_keepDeed_65 : decode cX4_keepDeed 65 = .ok (.putfield 215, 3) := by decide +kernel
theorem dX4_keepDeed_68 : decode cX4_keepDeed 68 = .ok (.aload_n 0, 1) := by decide +kernel
theorem dX4_keepDeed_69 : decode cX4_keepDeed 69 = .ok (.aload_n 1, 1) := by decide +kernel
theorem dX4_keepDeed_70 : decode cX4_keepDeed 70 = .ok (.invokevirtual 344, 3) := by decide +kernel
theorem dX4_keepDeed_73 : decode cX4_keepDeed 73 = .ok (.aload_n 0, 1) := by decide +kernel
theorem dX4_keepDeed_74 : decode cX4_keepDeed 74 = .ok (.getfield 16, 3) := by decide +kernel
theorem dX4_keepDeed_77 : decode cX4_keepDeed 77 = .ok (.aload_n 1, 1) := by decide +kernel
theorem dX4_keepDeed_78 : decode cX4_keepDeed 78 = .ok (.invokeinterface 327 2, 5) := by decide +kernel
theorem dX4_keepDeed_83 : decode cX4_keepDeed 83 = .ok (.pop, 1) := by decide +kernel
theorem dX4_keepDeed_84 : decode cX4_keepDeed 84 = .ok (.aload_n 1, 1) := by decide +kernel
theorem dX4_keepDeed_85 : decode cX4_keepDeed 85 = .ok (.getfield 347, 3) := by decide +kernel
theorem dX4_keepDeed_88 : decode cX4_keepDeed 88 = .ok (.ireturn, 1) := by decide +kernel
theorem dX4_addUp_0 : decode cX4_addUp 0 = .ok (.aload_n 1, 1) := by decide +kernel
theorem dX4_addUp_1 : decode cX4_addUp 1 = .ok (.getfield 281, 3) := by decide +kernel
theorem dX4_addUp_4 : decode cX4_addUp 4 = .ok (.istore_n 3, 1) := by decide +kernel
theorem dX4_addUp_5 : decode cX4_addUp 5 = .ok (.iconst 0, 1) := by decide +kernel
theorem dX4_addUp_6 : decode cX4_addUp 6 = .ok (.istore 4, 2) := by decide +kernel
theorem dX4_addUp_8 : decode cX4_addUp 8 = .ok (.iload 4, 2) := by decide +kernel
theorem dX4_addUp_10 : decode cX4_addUp 10 = .ok (.aload_n 1, 1) := by decide +kernel
theorem dX4_addUp_11 : decode cX4_addUp 11 = .ok (.getfield 347, 3) := by decide +kernel
theorem dX4_addUp_14 : decode cX4_addUp 14 = .ok (.if_icmp .ge 97, 3) := by decide +kernel
theorem dX4_addUp_17 : decode cX4_addUp 17 = .ok (.iload 4, 2) := by decide +kernel
theorem dX4_addUp_19 : decode cX4_addUp 19 = .ok (.aload_n 0, 1) := by decide +kernel
theorem dX4_addUp_20 : decode cX4_addUp 20 = .ok (.getfield 16, 3) := by decide +kernel
theorem dX4_addUp_23 : decode cX4_addUp 23 = .ok (.invokeinterface 86 1, 5) := by decide +kernel
theorem dX4_addUp_28 : decode cX4_addUp 28 = .ok (.if_icmp .ge 83, 3) := by decide +kernel
theorem dX4_addUp_31 : decode cX4_addUp 31 = .ok (.aload_n 0, 1) := by decide +kernel
theorem dX4_addUp_32 : decode cX4_addUp 32 = .ok (.getfield 16, 3) := by decide +kernel
theorem dX4_addUp_35 : decode cX4_addUp 35 = .ok (.iload 4, 2) := by decide +kernel
theorem dX4_addUp_37 : decode cX4_addUp 37 = .ok (.invokeinterface 277 2, 5) := by decide +kernel
theorem dX4_addUp_42 : decode cX4_addUp 42 = .ok (.checkcast 192, 3) := by decide +kernel
theorem dX4_addUp_45 : decode cX4_addUp 45 = .ok (.astore 5, 2) := by decide +kernel
theorem dX4_addUp_47 : decode cX4_addUp 47 = .ok (.aload 5, 2) := by decide +kernel
theorem dX4_addUp_49 : decode cX4_addUp 49 = .ok (.getfield 209, 3) := by decide +kernel
theorem dX4_addUp_52 : decode cX4_addUp 52 = .ok (.aload_n 1, 1) := by decide +kernel
theorem dX4_addUp_53 : decode cX4_addUp 53 = .ok (.getfield 209, 3) := by decide +kernel
theorem dX4_addUp_56 : decode cX4_addUp 56 = .ok (.if_icmp .ne 49, 3) := by decide +kernel
theorem dX4_addUp_59 : decode cX4_addUp 59 = .ok (.aload 5, 2) := by decide +kernel
theorem dX4_addUp_61 : decode cX4_addUp 61 = .ok (.getfield 348, 3) := by decide +kernel
theorem dX4_addUp_64 : decode cX4_addUp 64 = .ok (.aload_n 1, 1) := by decide +kernel
theorem dX4_addUp_65 : decode cX4_addUp 65 = .ok (.getfield 348, 3) := by decide +kernel
theorem dX4_addUp_68 : decode cX4_addUp 68 = .ok (.if_icmp .ne 37, 3) := by decide +kernel
theorem dX4_addUp_71 : decode cX4_addUp 71 = .ok (.aload_n 2, 1) := by decide +kernel
theorem dX4_addUp_72 : decode cX4_addUp 72 = .ok (.aload 5, 2) := by decide +kernel
theorem dX4_addUp_74 : decode cX4_addUp 74 = .ok (.invokevirtual 351, 3) := by decide +kernel
theorem dX4_addUp_77 : decode cX4_addUp 77 = .ok (.ifCond .ne 28, 3) := by decide +kernel
theorem dX4_addUp_80 : decode cX4_addUp 80 = .ok (.aload_n 2, 1) := by decide +kernel
theorem dX4_addUp_81 : decode cX4_addUp 81 = .ok (.getfield 222, 3) := by decide +kernel
theorem dX4_addUp_84 : decode cX4_addUp 84 = .ok (.aload 5, 2) := by decide +kernel
theorem dX4_addUp_86 : decode cX4_addUp 86 = .ok (.getfield 237, 3) := by decide +kernel
theorem dX4_addUp_89 : decode cX4_addUp 89 = .ok (.isub, 1) := by decide +kernel
theorem dX4_addUp_90 : decode cX4_addUp 90 = .ok (.aload_n 2, 1) := by decide +kernel
theorem dX4_addUp_91 : decode cX4_addUp 91 = .ok (.getfield 272, 3) := by decide +kernel
theorem dX4_addUp_94 : decode cX4_addUp 94 = .ok (.if_icmp .ge 11, 3) := by decide +kernel
theorem dX4_addUp_97 : decode cX4_addUp 97 = .ok (.iload_n 3, 1) := by decide +kernel
theorem dX4_addUp_98 : decode cX4_addUp 98 = .ok (.aload 5, 2) := by decide +kernel
theorem dX4_addUp_100 : decode cX4_addUp 100 = .ok (.getfield 281, 3) := by decide +kernel
theorem dX4_addUp_103 : decode cX4_addUp 103 = .ok (.iadd, 1) := by decide +kernel
theorem dX4_addUp_104 : decode cX4_addUp 104 = .ok (.istore_n 3, 1) := by decide +kernel
theorem dX4_addUp_105 : decode cX4_addUp 105 = .ok (.iinc 4 1, 3) := by decide +kernel
theorem dX4_addUp_108 : decode cX4_addUp 108 = .ok (.goto (-100), 3) := by decide +kernel
theorem dX4_addUp_111 : decode cX4_addUp 111 = .ok (.iload_n 3, 1) := by decide +kernel
theorem dX4_addUp_112 : decode cX4_addUp 112 = .ok (.ireturn, 1) := by decide +kernel
theorem dX4_signersSuffice_0 : decode cX4_signersSuffice 0 = .ok (.aload_n 0, 1) := by decide +kernel
theorem dX4_signersSuffice_1 : decode cX4_signersSuffice 1 = .ok (.aload_n 1, 1) := by decide +kernel
theorem dX4_signersSuffice_2 : decode cX4_signersSuffice 2 = .ok (.getfield 355, 3) := by decide +kernel
theorem dX4_signersSuffice_5 : decode cX4_signersSuffice 5 = .ok (.aload_n 1, 1) := by decide +kernel
theorem dX4_signersSuffice_6 : decode cX4_signersSuffice 6 = .ok (.getfield 209, 3) := by decide +kernel
theorem dX4_signersSuffice_9 : decode cX4_signersSuffice 9 = .ok (.iload_n 2, 1) := by decide +kernel
theorem dX4_signersSuffice_10 : decode cX4_signersSuffice 10 = .ok (.aload_n 3, 1) := by decide +kernel
theorem dX4_signersSuffice_11 : decode cX4_signersSuffice 11 = .ok (.invokevirtual 179, 3) := by decide +kernel
theorem dX4_signersSuffice_14 : decode cX4_signersSuffice 14 = .ok (.istore 4, 2) := by decide +kernel
theorem dX4_signersSuffice_16 : decode cX4_signersSuffice 16 = .ok (.aload_n 1, 1) := by decide +kernel
theorem dX4_signersSuffice_17 : decode cX4_signersSuffice 17 = .ok (.getfield 358, 3) := by decide +kernel
theorem dX4_signersSuffice_20 : decode cX4_signersSuffice 20 = .ok (.iconst (-1), 1) := by decide +kernel
theorem dX4_signersSuffice_21 : decode cX4_signersSuffice 21 = .ok (.if_icmp .ne 7, 3) := by decide +kernel
theorem dX4_signersSuffice_24 : decode cX4_signersSuffice 24 = .ok (.iconst 0, 1) := by decide +kernel
theorem dX4_signersSuffice_25 : decode cX4_signersSuffice 25 = .ok (.goto 17, 3) := by decide +kernel
theorem dX4_signersSuffice_28 : decode cX4_signersSuffice 28 = .ok (.aload_n 0, 1) := by decide +kernel
theorem dX4_signersSuffice_29 : decode cX4_signersSuffice 29 = .ok (.aload_n 1, 1) := by decide +kernel
theorem dX4_signersSuffice_30 : decode cX4_signersSuffice 30 = .ok (.getfield 358, 3) := by decide +kernel
theorem dX4_signersSuffice_33 : decode cX4_signersSuffice 33 = .ok (.aload_n 1, 1) := by decide +kernel
theorem dX4_signersSuffice_34 : decode cX4_signersSuffice 34 = .ok (.getfield 209, 3) := by decide +kernel
theorem dX4_signersSuffice_37 : decode cX4_signersSuffice 37 = .ok (.iload_n 2, 1) := by decide +kernel
theorem dX4_signersSuffice_38 : decode cX4_signersSuffice 38 = .ok (.aload_n 3, 1) := by decide +kernel
theorem dX4_signersSuffice_39 : decode cX4_signersSuffice 39 = .ok (.invokevirtual 179, 3) := by decide +kernel
theorem dX4_signersSuffice_42 : decode cX4_signersSuffice 42 = .ok (.istore 5, 2) := by decide +kernel
theorem dX4_signersSuffice_44 : decode cX4_signersSuffice 44 = .ok (.iload 4, 2) := by decide +kernel
theorem dX4_signersSuffice_46 : decode cX4_signersSuffice 46 = .ok (.iload 5, 2) := by decide +kernel
theorem dX4_signersSuffice_48 : decode cX4_signersSuffice 48 = .ok (.invokestatic 341, 3) := by decide +kernel
theorem dX4_signersSuffice_51 : decode cX4_signersSuffice 51 = .ok (.ireturn, 1) := by decide +kernel
theorem dX4_findLack_0 : decode cX4_findLack 0 = .ok (.aload_n 1, 1) := by decide +kernel
theorem dX4_findLack_1 : decode cX4_findLack 1 = .ok (.bipush 107, 2) := by decide +kernel
theorem dX4_findLack_3 : decode cX4_findLack 3 = .ok (.putfield 255, 3) := by decide +kernel
theorem dX4_findLack_6 : decode cX4_findLack 6 = .ok (.iconst 0, 1) := by decide +kernel
theorem dX4_findLack_7 : decode cX4_findLack 7 = .ok (.istore_n 2, 1) := by decide +kernel
theorem dX4_findLack_8 : decode cX4_findLack 8 = .ok (.iload_n 2, 1) := by decide +kernel
theorem dX4_findLack_9 : decode cX4_findLack 9 = .ok (.aload_n 0, 1) := by decide +kernel
theorem dX4_findLack_10 : decode cX4_findLack 10 = .ok (.getfield 10, 3) := by decide +kernel
theorem dX4_findLack_13 : decode cX4_findLack 13 = .ok (.invokeinterface 86 1, 5) := by decide +kernel
theorem dX4_findLack_18 : decode cX4_findLack 18 = .ok (.if_icmp .ge 49, 3) := by decide +kernel
theorem dX4_findLack_21 : decode cX4_findLack 21 = .ok (.aload_n 0, 1) := by decide +kernel
theorem dX4_findLack_22 : decode cX4_findLack 22 = .ok (.getfield 10, 3) := by decide +kernel
theorem dX4_findLack_25 : decode cX4_findLack 25 = .ok (.iload_n 2, 1) := by decide +kernel
theorem dX4_findLack_26 : decode cX4_findLack 26 = .ok (.invokeinterface 277 2, 5) := by decide +kernel
theorem dX4_findLack_31 : decode cX4_findLack 31 = .ok (.checkcast 84, 3) := by decide +kernel
theorem dX4_findLack_34 : decode cX4_findLack 34 = .ok (.astore_n 3, 1) := by decide +kernel
theorem dX4_findLack_35 : decode cX4_findLack 35 = .ok (.aload_n 3, 1) := by decide +kernel
theorem dX4_findLack_36 : decode cX4_findLack 36 = .ok (.getfield 127, 3) := by decide +kernel
theorem dX4_findLack_39 : decode cX4_findLack 39 = .ok (.aload_n 1, 1) := by decide +kernel
theorem dX4_findLack_40 : decode cX4_findLack 40 = .ok (.getfield 209, 3) := by decide +kernel
theorem dX4_findLack_43 : decode cX4_findLack 43 = .ok (.if_icmp .ne 18, 3) := by decide +kernel
theorem dX4_findLack_46 : decode cX4_findLack 46 = .ok (.aload_n 0, 1) := by decide +kernel
theorem dX4_findLack_47 : decode cX4_findLack 47 = .ok (.aload_n 3, 1) := by decide +kernel
theorem dX4_findLack_48 : decode cX4_findLack 48 = .ok (.aload_n 1, 1) := by decide +kernel
theorem dX4_findLack_49 : decode cX4_findLack 49 = .ok (.invokevirtual 361, 3) := by decide +kernel
theorem dX4_findLack_52 : decode cX4_findLack 52 = .ok (.ifCond .eq 9, 3) := by decide +kernel
theorem dX4_findLack_55 : decode cX4_findLack 55 = .ok (.aload_n 0, 1) := by decide +kernel
theorem dX4_findLack_56 : decode cX4_findLack 56 = .ok (.aload_n 1, 1) := by decide +kernel
theorem dX4_findLack_57 : decode cX4_findLack 57 = .ok (.aload_n 3, 1) := by decide +kernel
theorem dX4_findLack_58 : decode cX4_findLack 58 = .ok (.invokevirtual 365, 3) := by decide +kernel
theorem dX4_findLack_61 : decode cX4_findLack 61 = .ok (.iinc 2 1, 3) := by decide +kernel
theorem dX4_findLack_64 : decode cX4_findLack 64 = .ok (.goto (-56), 3) := by decide +kernel
theorem dX4_findLack_67 : decode cX4_findLack 67 = .ok (.return_, 1) := by decide +kernel
theorem dX4_signersActBy_0 : decode cX4_signersActBy 0 = .ok (.aload_n 0, 1) := by decide +kernel
theorem dX4_signersActBy_1 : decode cX4_signersActBy 1 = .ok (.getfield 25, 3) := by decide +kernel
theorem dX4_signersActBy_4 : decode cX4_signersActBy 4 = .ok (.aload_n 2, 1) := by decide +kernel
theorem dX4_signersActBy_5 : decode cX4_signersActBy 5 = .ok (.getfield 355, 3) := by decide +kernel
theorem dX4_signersActBy_8 : decode cX4_signersActBy 8 = .ok (.aload_n 1, 1) := by decide +kernel
theorem dX4_signersActBy_9 : decode cX4_signersActBy 9 = .ok (.getfield 103, 3) := by decide +kernel
theorem dX4_signersActBy_12 : decode cX4_signersActBy 12 = .ok (.invokevirtual 65, 3) := by decide +kernel
theorem dX4_signersActBy_15 : decode cX4_signersActBy 15 = .ok (.ifCond .ne 29, 3) := by decide +kernel
theorem dX4_signersActBy_18 : decode cX4_signersActBy 18 = .ok (.aload_n 2, 1) := by decide +kernel
theorem dX4_signersActBy_19 : decode cX4_signersActBy 19 = .ok (.getfield 358, 3) := by decide +kernel
theorem dX4_signersActBy_22 : decode cX4_signersActBy 22 = .ok (.iconst (-1), 1) := by decide +kernel
theorem dX4_signersActBy_23 : decode cX4_signersActBy 23 = .ok (.if_icmp .eq 25, 3) := by decide +kernel
theorem dX4_signersActBy_26 : decode cX4_signersActBy 26 = .ok (.aload_n 0, 1) := by decide +kernel
theorem dX4_signersActBy_27 : decode cX4_signersActBy 27 = .ok (.getfield 25, 3) := by decide +kernel
theorem dX4_signersActBy_30 : decode cX4_signersActBy 30 = .ok (.aload_n 2, 1) := by decide +kernel
theorem dX4_signersActBy_31 : decode cX4_signersActBy 31 = .ok (.getfield 358, 3) := by decide +kernel
theorem dX4_signersActBy_34 : decode cX4_signersActBy 34 = .ok (.aload_n 1, 1) := by decide +kernel
theorem dX4_signersActBy_35 : decode cX4_signersActBy 35 = .ok (.getfield 103, 3) := by decide +kernel
theorem dX4_signersActBy_38 : decode cX4_signersActBy 38 = .ok (.invokevirtual 65, 3) := by decide +kernel
theorem dX4_signersActBy_41 : decode cX4_signersActBy 41 = .ok (.ifCond .eq 7, 3) := by decide +kernel
theorem dX4_signersActBy_44 : decode cX4_signersActBy 44 = .ok (.iconst 1, 1) := by decide +kernel
theorem dX4_signersActBy_45 : decode cX4_signersActBy 45 = .ok (.goto 4, 3) := by decide +kernel
theorem dX4_signersActBy_48 : decode cX4_signersActBy 48 = .ok (.iconst 0, 1) := by decide +kernel
theorem dX4_signersActBy_49 : decode cX4_signersActBy 49 = .ok (.ireturn, 1) := by decide +kernel
theorem dX4_noteLack_0 : decode cX4_noteLack 0 = .ok (.aload_n 0, 1) := by decide +kernel
theorem dX4_noteLack_1 : decode cX4_noteLack 1 = .ok (.getfield 25, 3) := by decide +kernel
theorem dX4_noteLack_4 : decode cX4_noteLack 4 = .ok (.aload_n 2, 1) := by decide +kernel
theorem dX4_noteLack_5 : decode cX4_noteLack 5 = .ok (.aload_n 1, 1) := by decide +kernel
theorem dX4_noteLack_6 : decode cX4_noteLack 6 = .ok (.getfield 210, 3) := by decide +kernel
theorem dX4_noteLack_9 : decode cX4_noteLack 9 = .ok (.invokevirtual 152, 3) := by decide +kernel
theorem dX4_noteLack_12 : decode cX4_noteLack 12 = .ok (.istore_n 3, 1) := by decide +kernel
theorem dX4_noteLack_13 : decode cX4_noteLack 13 = .ok (.iload_n 3, 1) := by decide +kernel
theorem dX4_noteLack_14 : decode cX4_noteLack 14 = .ok (.bipush 45, 2) := by decide +kernel
theorem dX4_noteLack_16 : decode cX4_noteLack 16 = .ok (.if_icmp .ne 8, 3) := by decide +kernel
theorem dX4_noteLack_19 : decode cX4_noteLack 19 = .ok (.bipush 104, 2) := by decide +kernel
theorem dX4_noteLack_21 : decode cX4_noteLack 21 = .ok (.goto 4, 3) := by decide +kernel
theorem dX4_noteLack_24 : decode cX4_noteLack 24 = .ok (.iload_n 3, 1) := by decide +kernel
theorem dX4_noteLack_25 : decode cX4_noteLack 25 = .ok (.istore 4, 2) := by decide +kernel
theorem dX4_noteLack_27 : decode cX4_noteLack 27 = .ok (.ldc_w 369, 3) := by decide +kernel
theorem dX4_noteLack_30 : decode cX4_noteLack 30 = .ok (.iload 4, 2) := by decide +kernel
theorem dX4_noteLack_32 : decode cX4_noteLack 32 = .ok (.invokevirtual 371, 3) := by decide +kernel
theorem dX4_noteLack_35 : decode cX4_noteLack 35 = .ok (.ldc_w 369, 3) := by decide +kernel
theorem dX4_noteLack_38 : decode cX4_noteLack 38 = .ok (.aload_n 1, 1) := by decide +kernel
theorem dX4_noteLack_39 : decode cX4_noteLack 39 = .ok (.getfield 255, 3) := by decide +kernel
theorem dX4_noteLack_42 : decode cX4_noteLack 42 = .ok (.invokevirtual 371, 3) := by decide +kernel
theorem dX4_noteLack_45 : decode cX4_noteLack 45 = .ok (.if_icmp .le 43, 3) := by decide +kernel
theorem dX4_noteLack_48 : decode cX4_noteLack 48 = .ok (.aload_n 1, 1) := by decide +kernel
theorem dX4_noteLack_49 : decode cX4_noteLack 49 = .ok (.iload 4, 2) := by decide +kernel
theorem dX4_noteLack_51 : decode cX4_noteLack 51 = .ok (.putfield 255, 3) := by decide +kernel
theorem dX4_noteLack_54 : decode cX4_noteLack 54 = .ok (.aload_n 1, 1) := by decide +kernel
theorem dX4_noteLack_55 : decode cX4_noteLack 55 = .ok (.aload_n 2, 1) := by decide +kernel
theorem dX4_noteLack_56 : decode cX4_noteLack 56 = .ok (.getfield 146, 3) := by decide +kernel
theorem dX4_noteLack_59 : decode cX4_noteLack 59 = .ok (.putfield 263, 3) := by decide +kernel
theorem dX4_noteLack_62 : decode cX4_noteLack 62 = .ok (.aload_n 1, 1) := by decide +kernel
theorem dX4_noteLack_63 : decode cX4_noteLack 63 = .ok (.iload_n 3, 1) := by decide +kernel
theorem dX4_noteLack_64 : decode cX4_noteLack 64 = .ok (.bipush 45, 2) := by decide +kernel
theorem dX4_noteLack_66 : decode cX4_noteLack 66 = .ok (.if_icmp .ne 7, 3) := by decide +kernel
theorem dX4_noteLack_69 : decode cX4_noteLack 69 = .ok (.iconst 0, 1) := by decide +kernel
theorem dX4_noteLack_70 : decode cX4_noteLack 70 = .ok (.goto 15, 3) := by decide +kernel
theorem dX4_noteLack_73 : decode cX4_noteLack 73 = .ok (.aload_n 0, 1) := by decide +kernel
theorem dX4_noteLack_74 : decode cX4_noteLack 74 = .ok (.getfield 25, 3) := by decide +kernel
theorem dX4_noteLack_77 : decode cX4_noteLack 77 = .ok (.aload_n 2, 1) := by decide +kernel
theorem dX4_noteLack_78 : decode cX4_noteLack 78 = .ok (.aload_n 1, 1) := by decide +kernel
theorem dX4_noteLack_79 : decode cX4_noteLack 79 = .ok (.getfield 210, 3) := by decide +kernel
theorem dX4_noteLack_82 : decode cX4_noteLack 82 = .ok (.invokevirtual 156, 3) := by decide +kernel
theorem dX4_noteLack_85 : decode cX4_noteLack 85 = .ok (.putfield 266, 3) := by decide +kernel
theorem dX4_noteLack_88 : decode cX4_noteLack 88 = .ok (.return_, 1) := by decide +kernel
theorem dX4_countWaiting_0 : decode cX4_countWaiting 0 = .ok (.iconst 0, 1) := by decide +kernel
theorem dX4_countWaiting_1 : decode cX4_countWaiting 1 = .ok (.istore_n 1, 1) := by decide +kernel
theorem dX4_countWaiting_2 : decode cX4_countWaiting 2 = .ok (.iconst 0, 1) := by decide +kernel
theorem dX4_countWaiting_3 : decode cX4_countWaiting 3 = .ok (.istore_n 2, 1) := by decide +kernel
theorem dX4_countWaiting_4 : decode cX4_countWaiting 4 = .ok (.iload_n 2, 1) := by decide +kernel
theorem dX4_countWaiting_5 : decode cX4_countWaiting 5 = .ok (.aload_n 0, 1) := by decide +kernel
theorem dX4_countWaiting_6 : decode cX4_countWaiting 6 = .ok (.getfield 16, 3) := by decide +kernel
theorem dX4_countWaiting_9 : decode cX4_countWaiting 9 = .ok (.invokeinterface 86 1, 5) := by decide +kernel
theorem dX4_countWaiting_14 : decode cX4_countWaiting 14 = .ok (.if_icmp .ge 33, 3) := by decide +kernel
theorem dX4_countWaiting_17 : decode cX4_countWaiting 17 = .ok (.aload_n 0, 1) := by decide +kernel
theorem dX4_countWaiting_18 : decode cX4_countWaiting 18 = .ok (.getfield 16, 3) := by decide +kernel
theorem dX4_countWaiting_21 : decode cX4_countWaiting 21 = .ok (.iload_n 2, 1) := by decide +kernel
theorem dX4_countWaiting_22 : decode cX4_countWaiting 22 = .ok (.invokeinterface 277 2, 5) := by decide +kernel
theorem dX4_countWaiting_27 : decode cX4_countWaiting 27 = .ok (.checkcast 192, 3) := by decide +kernel
theorem dX4_countWaiting_30 : decode cX4_countWaiting 30 = .ok (.getfield 215, 3) := by decide +kernel
theorem dX4_countWaiting_33 : decode cX4_countWaiting 33 = .ok (.bipush 119, 2) := by decide +kernel
theorem dX4_countWaiting_35 : decode cX4_countWaiting 35 = .ok (.if_icmp .ne 6, 3) := by decide +kernel
theorem dX4_countWaiting_38 : decode cX4_countWaiting 38 = .ok (.iinc 1 1, 3) := by decide +kernel
theorem dX4_countWaiting_41 : decode cX4_countWaiting 41 = .ok (.iinc 2 1, 3) := by decide +kernel
theorem dX4_countWaiting_44 : decode cX4_countWaiting 44 = .ok (.goto (-40), 3) := by decide +kernel
theorem dX4_countWaiting_47 : decode cX4_countWaiting 47 = .ok (.iload_n 1, 1) := by decide +kernel
theorem dX4_countWaiting_48 : decode cX4_countWaiting 48 = .ok (.ireturn, 1) := by decide +kernel
theorem dX5_init_0 : decode cX5_init 0 = .ok (.aload_n 0, 1) := by decide +kernel
theorem dX5_init_1 : decode cX5_init 1 = .ok (.invokespecial 1, 3) := by decide +kernel
theorem dX5_init_4 : decode cX5_init 4 = .ok (.aload_n 0, 1) := by decide +kernel
theorem dX5_init_5 : decode cX5_init 5 = .ok (.bipush 8, 2) := by decide +kernel
theorem dX5_init_7 : decode cX5_init 7 = .ok (.newarray .boolean, 2) := by decide +kernel
theorem dX5_init_9 : decode cX5_init 9 = .ok (.putfield 9, 3) := by decide +kernel
theorem dX5_init_12 : decode cX5_init 12 = .ok (.aload_n 0, 1) := by decide +kernel
theorem dX5_init_13 : decode cX5_init 13 = .ok (.bipush 20, 2) := by decide +kernel
theorem dX5_init_15 : decode cX5_init 15 = .ok (.newarray .boolean, 2) := by decide +kernel
theorem dX5_init_17 : decode cX5_init 17 = .ok (.putfield 13, 3) := by decide +kernel
theorem dX5_init_20 : decode cX5_init 20 = .ok (.aload_n 0, 1) := by decide +kernel
theorem dX5_init_21 : decode cX5_init 21 = .ok (.bipush 8, 2) := by decide +kernel
theorem dX5_init_23 : decode cX5_init 23 = .ok (.newarray .int, 2) := by decide +kernel
theorem dX5_init_25 : decode cX5_init 25 = .ok (.putfield 16, 3) := by decide +kernel
theorem dX5_init_28 : decode cX5_init 28 = .ok (.aload_n 0, 1) := by decide +kernel
theorem dX5_init_29 : decode cX5_init 29 = .ok (.bipush 20, 2) := by decide +kernel
theorem dX5_init_31 : decode cX5_init 31 = .ok (.newarray .int, 2) := by decide +kernel
theorem dX5_init_33 : decode cX5_init 33 = .ok (.putfield 20, 3) := by decide +kernel
theorem dX5_init_36 : decode cX5_init 36 = .ok (.aload_n 0, 1) := by decide +kernel
theorem dX5_init_37 : decode cX5_init 37 = .ok (.bipush 20, 2) := by decide +kernel
theorem dX5_init_39 : decode cX5_init 39 = .ok (.newarray .int, 2) := by decide +kernel
theorem dX5_init_41 : decode cX5_init 41 = .ok (.putfield 23, 3) := by decide +kernel
theorem dX5_init_44 : decode cX5_init 44 = .ok (.aload_n 0, 1) := by decide +kernel
theorem dX5_init_45 : decode cX5_init 45 = .ok (.bipush 20, 2) := by decide +kernel
theorem dX5_init_47 : decode cX5_init 47 = .ok (.newarray .int, 2) := by decide +kernel
theorem dX5_init_49 : decode cX5_init 49 = .ok (.putfield 26, 3) := by decide +kernel
theorem dX5_init_52 : decode cX5_init 52 = .ok (.aload_n 0, 1) := by decide +kernel
theorem dX5_init_53 : decode cX5_init 53 = .ok (.bipush 20, 2) := by decide +kernel
theorem dX5_init_55 : decode cX5_init 55 = .ok (.newarray .int, 2) := by decide +kernel
theorem dX5_init_57 : decode cX5_init 57 = .ok (.putfield 29, 3) := by decide +kernel
theorem dX5_init_60 : decode cX5_init 60 = .ok (.aload_n 0, 1) := by decide +kernel
theorem dX5_init_61 : decode cX5_init 61 = .ok (.bipush 20, 2) := by decide +kernel
theorem dX5_init_63 : decode cX5_init 63 = .ok (.newarray .int, 2) := by decide +kernel
theorem dX5_init_65 : decode cX5_init 65 = .ok (.putfield 32, 3) := by decide +kernel
theorem dX5_init_68 : decode cX5_init 68 = .ok (.aload_n 0, 1) := by decide +kernel
theorem dX5_init_69 : decode cX5_init 69 = .ok (.bipush 20, 2) := by decide +kernel
theorem dX5_init_71 : decode cX5_init 71 = .ok (.newarray .int, 2) := by decide +kernel
theorem dX5_init_73 : decode cX5_init 73 = .ok (.putfield 35, 3) := by decide +kernel
theorem dX5_init_76 : decode cX5_init 76 = .ok (.aload_n 0, 1) := by decide +kernel
theorem dX5_init_77 : decode cX5_init 77 = .ok (.bipush 20, 2) := by decide +kernel
theorem dX5_init_79 : decode cX5_init 79 = .ok (.newarray .char, 2) := by decide +kernel
theorem dX5_init_81 : decode cX5_init 81 = .ok (.putfield 38, 3) := by decide +kernel
theorem dX5_init_84 : decode cX5_init 84 = .ok (.aload_n 0, 1) := by decide +kernel
theorem dX5_init_85 : decode cX5_init 85 = .ok (.bipush 24, 2) := by decide +kernel
theorem dX5_init_87 : decode cX5_init 87 = .ok (.newarray .int, 2) := by decide +kernel
theorem dX5_init_89 : decode cX5_init 89 = .ok (.putfield 42, 3) := by decide +kernel
theorem dX5_init_92 : decode cX5_init 92 = .ok (.aload_n 0, 1) := by decide +kernel
theorem dX5_init_93 : decode cX5_init 93 = .ok (.bipush 24, 2) := by decide +kernel
theorem dX5_init_95 : decode cX5_init 95 = .ok (.newarray .int, 2) := by decide +kernel
theorem dX5_init_97 : decode cX5_init 97 = .ok (.putfield 45, 3) := by decide +kernel
theorem dX5_init_100 : decode cX5_init 100 = .ok (.aload_n 0, 1) := by decide +kernel
theorem dX5_init_101 : decode cX5_init 101 = .ok (.bipush 24, 2) := by decide +kernel
theorem dX5_init_103 : decode cX5_init 103 = .ok (.newarray .int, 2) := by decide +kernel
theorem dX5_init_105 : decode cX5_init 105 = .ok (.putfield 48, 3) := by decide +kernel
theorem dX5_init_108 : decode cX5_init 108 = .ok (.aload_n 0, 1) := by decide +kernel
theorem dX5_init_109 : decode cX5_init 109 = .ok (.bipush 24, 2) := by decide +kernel
theorem dX5_init_111 : decode cX5_init 111 = .ok (.newarray .int, 2) := by decide +kernel
theorem dX5_init_113 : decode cX5_init 113 = .ok (.putfield 51, 3) := by decide +kernel
theorem dX5_init_116 : decode cX5_init 116 = .ok (.aload_n 0, 1) := by decide +kernel
theorem dX5_init_117 : decode cX5_init 117 = .ok (.bipush 24, 2) := by decide +kernel
theorem dX5_init_119 : decode cX5_init 119 = .ok (.newarray .int, 2) := by decide +kernel
theorem dX5_init_121 : decode cX5_init 121 = .ok (.putfield 54, 3) := by decide +kernel
theorem dX5_init_124 : decode cX5_init 124 = .ok (.aload_n 0, 1) := by decide +kernel
theorem dX5_init_125 : decode cX5_init 125 = .ok (.bipush 24, 2) := by decide +kernel
theorem dX5_init_127 : decode cX5_init 127 = .ok (.newarray .int, 2) := by decide +kernel
theorem dX5_init_129 : decode cX5_init 129 = .ok (.putfield 57, 3) := by decide +kernel
theorem dX5_init_132 : decode cX5_init 132 = .ok (.aload_n 0, 1) := by decide +kernel
theorem dX5_init_133 : decode cX5_init 133 = .ok (.bipush 24, 2) := by decide +kernel
theorem dX5_init_135 : decode cX5_init 135 = .ok (.newarray .int, 2) := by decide +kernel
theorem dX5_init_137 : decode cX5_init 137 = .ok (.putfield 60, 3) := by decide +kernel
theorem dX5_init_140 : decode cX5_init 140 = .ok (.aload_n 0, 1) := by decide +kernel
theorem dX5_init_141 : decode cX5_init 141 = .ok (.bipush 24, 2) := by decide +kernel
theorem dX5_init_143 : decode cX5_init 143 = .ok (.newarray .char, 2) := by decide +kernel
theorem dX5_init_145 : decode cX5_init 145 = .ok (.putfield 63, 3) := by decide +kernel
theorem dX5_init_148 : decode cX5_init 148 = .ok (.aload_n 0, 1) := by decide +kernel
theorem dX5_init_149 : decode cX5_init 149 = .ok (.bipush 24, 2) := by decide +kernel
theorem dX5_init_151 : decode cX5_init 151 = .ok (.newarray .char, 2) := by decide +kernel
theorem dX5_init_153 : decode cX5_init 153 = .ok (.putfield 66, 3) := by decide +kernel
theorem dX5_init_156 : decode cX5_init 156 = .ok (.aload_n 0, 1) := by decide +kernel
theorem dX5_init_157 : decode cX5_init 157 = .ok (.bipush 30, 2) := by decide +kernel
theorem dX5_init_159 : decode cX5_init 159 = .ok (.putfield 69, 3) := by decide +kernel
theorem dX5_init_162 : decode cX5_init 162 = .ok (.return_, 1) := by decide +kernel
theorem dX5_thrown_0 : decode cX5_thrown 0 = .ok (.aload_n 0, 1) := by decide +kernel
theorem dX5_thrown_1 : decode cX5_thrown 1 = .ok (.getfield 73, 3) := by decide +kernel
theorem dX5_thrown_4 : decode cX5_thrown 4 = .ok (.ireturn, 1) := by decide +kernel
theorem dX5_isIn_0 : decode cX5_isIn 0 = .ok (.iload_n 0, 1) := by decide +kernel
theorem dX5_isIn_1 : decode cX5_isIn 1 = .ok (.iload_n 1, 1) := by decide +kernel
theorem dX5_isIn_2 : decode cX5_isIn 2 = .ok (.if_icmp .lt 12, 3) := by decide +kernel
theorem dX5_isIn_5 : decode cX5_isIn 5 = .ok (.iload_n 0, 1) := by decide +kernel
theorem dX5_isIn_6 : decode cX5_isIn 6 = .ok (.iload_n 2, 1) := by decide +kernel
theorem dX5_isIn_7 : decode cX5_isIn 7 = .ok (.if_icmp .gt 7, 3) := by decide +kernel
theorem dX5_isIn_10 : decode cX5_isIn 10 = .ok (.iconst 1, 1) := by decide +kernel
theorem dX5_isIn_11 : decode cX5_isIn 11 = .ok (.goto 4, 3) := by decide +kernel
theorem dX5_isIn_14 : decode cX5_isIn 14 = .ok (.iconst 0, 1) := by decide +kernel
theorem dX5_isIn_15 : decode cX5_isIn 15 = .ok (.ireturn, 1) := by decide +kernel
theorem dX5_isThrown_0 : decode cX5_isThrown 0 = .ok (.aload_n 0, 1) := by decide +kernel
theorem dX5_isThrown_1 : decode cX5_isThrown 1 = .ok (.iload_n 1, 1) := by decide +kernel
theorem dX5_isThrown_2 : decode cX5_isThrown 2 = .ok (.ifCond .eq 7, 3) := by decide +kernel
theorem dX5_isThrown_5 : decode cX5_isThrown 5 = .ok (.iload_n 2, 1) := by decide +kernel
theorem dX5_isThrown_6 : decode cX5_isThrown 6 = .ok (.goto 4, 3) := by decide +kernel
theorem dX5_isThrown_9 : decode cX5_isThrown 9 = .ok (.iconst 0, 1) := by decide +kernel
theorem dX5_isThrown_10 : decode cX5_isThrown 10 = .ok (.putfield 73, 3) := by decide +kernel
theorem dX5_isThrown_13 : decode cX5_isThrown 13 = .ok (.iload_n 1, 1) := by decide +kernel
theorem dX5_isThrown_14 : decode cX5_isThrown 14 = .ok (.ireturn, 1) := by decide +kernel
theorem dX5_isNobody_0 : decode cX5_isNobody 0 = .ok (.iload_n 1, 1) := by decide +kernel
theorem dX5_isNobody_1 : decode cX5_isNobody 1 = .ok (.iconst 0, 1) := by decide +kernel
theorem dX5_isNobody_2 : decode cX5_isNobody 2 = .ok (.aload_n 0, 1) := by decide +kernel
theorem dX5_isNobody_3 : decode cX5_isNobody 3 = .ok (.getfield 76, 3) := by decide +kernel
theorem dX5_isNobody_6 : decode cX5_isNobody 6 = .ok (.iconst 1, 1) := by decide +kernel
theorem dX5_isNobody_7 : decode cX5_isNobody 7 = .ok (.isub, 1) := by decide +kernel
theorem dX5_isNobody_8 : decode cX5_isNobody 8 = .ok (.invokestatic 79, 3) := by decide +kernel
theorem dX5_isNobody_11 : decode cX5_isNobody 11 = .ok (.ifCond .ne 7, 3) := by decide +kernel
theorem dX5_isNobody_14 : decode cX5_isNobody 14 = .ok (.iconst 1, 1) := by decide +kernel
theorem dX5_isNobody_15 : decode cX5_isNobody 15 = .ok (.goto 4, 3) := by decide +kernel
theorem dX5_isNobody_18 : decode cX5_isNobody 18 = .ok (.iconst 0, 1) := by decide +kernel
theorem dX5_isNobody_19 : decode cX5_isNobody 19 = .ok (.ireturn, 1) := by decide +kernel
theorem dX5_isNoPower_0 : decode cX5_isNoPower 0 = .ok (.aload_n 0, 1) := by decide +kernel
theorem dX5_isNoPower_1 : decode cX5_isNoPower 1 = .ok (.iload_n 1, 1) := by decide +kernel
theorem dX5_isNoPower_2 : decode cX5_isNoPower 2 = .ok (.iconst 0, 1) := by decide +kernel
theorem dX5_isNoPower_3 : decode cX5_isNoPower 3 = .ok (.aload_n 0, 1) := by decide +kernel
theorem dX5_isNoPower_4 : decode cX5_isNoPower 4 = .ok (.getfield 83, 3) := by decide +kernel
theorem dX5_isNoPower_7 : decode cX5_isNoPower 7 = .ok (.iconst 1, 1) := by decide +kernel
theorem dX5_isNoPower_8 : decode cX5_isNoPower 8 = .ok (.isub, 1) := by decide +kernel
theorem dX5_isNoPower_9 : decode cX5_isNoPower 9 = .ok (.invokestatic 79, 3) := by decide +kernel
theorem dX5_isNoPower_12 : decode cX5_isNoPower 12 = .ok (.ifCond .ne 7, 3) := by decide +kernel
theorem dX5_isNoPower_15 : decode cX5_isNoPower 15 = .ok (.iconst 1, 1) := by decide +kernel
theorem dX5_isNoPower_16 : decode cX5_isNoPower 16 = .ok (.goto 4, 3) := by decide +kernel
theorem dX5_isNoPower_19 : decode cX5_isNoPower 19 = .ok (.iconst 0, 1) := by decide +kernel
theorem dX5_isNoPower_20 : decode cX5_isNoPower 20 = .ok (.iconst 1, 1) := by decide +kernel
theorem dX5_isNoPower_21 : decode cX5_isNoPower 21 = .ok (.invokevirtual 86, 3) := by decide +kernel
theorem dX5_isNoPower_24 : decode cX5_isNoPower 24 = .ok (.ireturn, 1) := by decide +kernel
theorem dX5_isNoDeed_0 : decode cX5_isNoDeed 0 = .ok (.aload_n 0, 1) := by decide +kernel
theorem dX5_isNoDeed_1 : decode cX5_isNoDeed 1 = .ok (.iload_n 1, 1) := by decide +kernel
theorem dX5_isNoDeed_2 : decode cX5_isNoDeed 2 = .ok (.iconst 0, 1) := by decide +kernel
theorem dX5_isNoDeed_3 : decode cX5_isNoDeed 3 = .ok (.aload_n 0, 1) := by decide +kernel
theorem dX5_isNoDeed_4 : decode cX5_isNoDeed 4 = .ok (.getfield 90, 3) := by decide +kernel
theorem dX5_isNoDeed_7 : decode cX5_isNoDeed 7 = .ok (.iconst 1, 1) := by decide +kernel
theorem dX5_isNoDeed_8 : decode cX5_isNoDeed 8 = .ok (.isub, 1) := by decide +kernel
theorem dX5_isNoDeed_9 : decode cX5_isNoDeed 9 = .ok (.invokestatic 79, 3) := by decide +kernel
theorem dX5_isNoDeed_12 : decode cX5_isNoDeed 12 = .ok (.ifCond .ne 7, 3) := by decide +kernel
theorem dX5_isNoDeed_15 : decode cX5_isNoDeed 15 = .ok (.iconst 1, 1) := by decide +kernel
theorem dX5_isNoDeed_16 : decode cX5_isNoDeed 16 = .ok (.goto 4, 3) := by decide +kernel
theorem dX5_isNoDeed_19 : decode cX5_isNoDeed 19 = .ok (.iconst 0, 1) := by decide +kernel
theorem dX5_isNoDeed_20 : decode cX5_isNoDeed 20 = .ok (.iconst 1, 1) := by decide +kernel
theorem dX5_isNoDeed_21 : decode cX5_isNoDeed 21 = .ok (.invokevirtual 86, 3) := by decide +kernel
theorem dX5_isNoDeed_24 : decode cX5_isNoDeed 24 = .ok (.ireturn, 1) := by decide +kernel
theorem dX5_addPerson_0 : decode cX5_addPerson 0 = .ok (.aload_n 0, 1) := by decide +kernel
theorem dX5_addPerson_1 : decode cX5_addPerson 1 = .ok (.aload_n 0, 1) := by decide +kernel
theorem dX5_addPerson_2 : decode cX5_addPerson 2 = .ok (.getfield 76, 3) := by decide +kernel
theorem dX5_addPerson_5 : decode cX5_addPerson 5 = .ok (.bipush 8, 2) := by decide +kernel
theorem dX5_addPerson_7 : decode cX5_addPerson 7 = .ok (.if_icmp .ne 7, 3) := by decide +kernel
theorem dX5_addPerson_10 : decode cX5_addPerson 10 = .ok (.iconst 1, 1) := by decide +kernel
theorem dX5_addPerson_11 : decode cX5_addPerson 11 = .ok (.goto 4, 3) := by decide +kernel
theorem dX5_addPerson_14 : decode cX5_addPerson 14 = .ok (.iconst 0, 1) := by decide +kernel
theorem dX5_addPerson_15 : decode cX5_addPerson 15 = .ok (.iconst 1, 1) := by decide +kernel
theorem dX5_addPerson_16 : decode cX5_addPerson 16 = .ok (.invokevirtual 86, 3) := by decide +kernel
theorem dX5_addPerson_19 : decode cX5_addPerson 19 = .ok (.ifCond .eq 5, 3) := by decide +kernel
theorem dX5_addPerson_22 : decode cX5_addPerson 22 = .ok (.iconst 0, 1) := by decide +kernel
theorem dX5_addPerson_23 : decode cX5_addPerson 23 = .ok (.ireturn, 1) := by decide +kernel
theorem dX5_addPerson_24 : decode cX5_addPerson 24 = .ok (.aload_n 0, 1) := by decide +kernel
theorem dX5_addPerson_25 : decode cX5_addPerson 25 = .ok (.getfield 16, 3) := by decide +kernel
theorem dX5_addPerson_28 : decode cX5_addPerson 28 = .ok (.aload_n 0, 1) := by decide +kernel
theorem dX5_addPerson_29 : decode cX5_addPerson 29 = .ok (.getfield 76, 3) := by decide +kernel
theorem dX5_addPerson_32 : decode cX5_addPerson 32 = .ok (.iconst (-1), 1) := by decide +kernel
theorem dX5_addPerson_33 : decode cX5_addPerson 33 = .ok (.iastore, 1) := by decide +kernel
theorem dX5_addPerson_34 : decode cX5_addPerson 34 = .ok (.aload_n 0, 1) := by decide +kernel
theorem dX5_addPerson_35 : decode cX5_addPerson 35 = .ok (.dup, 1) := by decide +kernel
theorem dX5_addPerson_36 : decode cX5_addPerson 36 = .ok (.getfield 76, 3) := by decide +kernel
theorem dX5_addPerson_39 : decode cX5_addPerson 39 = .ok (.iconst 1, 1) := by decide +kernel
theorem dX5_addPerson_40 : decode cX5_addPerson 40 = .ok (.iadd, 1) := by decide +kernel
theorem dX5_addPerson_41 : decode cX5_addPerson 41 = .ok (.putfield 76, 3) := by decide +kernel
theorem dX5_addPerson_44 : decode cX5_addPerson 44 = .ok (.aload_n 0, 1) := by decide +kernel
theorem dX5_addPerson_45 : decode cX5_addPerson 45 = .ok (.getfield 76, 3) := by decide +kernel
theorem dX5_addPerson_48 : decode cX5_addPerson 48 = .ok (.iconst 1, 1) := by decide +kernel
theorem dX5_addPerson_49 : decode cX5_addPerson 49 = .ok (.isub, 1) := by decide +kernel
theorem dX5_addPerson_50 : decode cX5_addPerson 50 = .ok (.ireturn, 1) := by decide +kernel
theorem dX5_leave_0 : decode cX5_leave 0 = .ok (.aload_n 0, 1) := by decide +kernel
theorem dX5_leave_1 : decode cX5_leave 1 = .ok (.aload_n 0, 1) := by decide +kernel
theorem dX5_leave_2 : decode cX5_leave 2 = .ok (.iload_n 1, 1) := by decide +kernel
theorem dX5_leave_3 : decode cX5_leave 3 = .ok (.invokevirtual 93, 3) := by decide +kernel
theorem dX5_leave_6 : decode cX5_leave 6 = .ok (.ifCond .ne 16, 3) := by decide +kernel
theorem dX5_leave_9 : decode cX5_leave 9 = .ok (.iload_n 2, 1) := by decide +kernel
theorem dX5_leave_10 : decode cX5_leave 10 = .ok (.iconst (-1), 1) := by decide +kernel
theorem dX5_leave_11 : decode cX5_leave 11 = .ok (.if_icmp .eq 15, 3) := by decide +kernel
theorem dX5_leave_14 : decode cX5_leave 14 = .ok (.aload_n 0, 1) := by decide +kernel
theorem dX5_leave_15 : decode cX5_leave 15 = .ok (.iload_n 2, 1) := by decide +kernel
theorem dX5_leave_16 : decode cX5_leave 16 = .ok (.invokevirtual 93, 3) := by decide +kernel
theorem dX5_leave_19 : decode cX5_leave 19 = .ok (.ifCond .eq 7, 3) := by decide +kernel
theorem dX5_leave_22 : decode cX5_leave 22 = .ok (.iconst 1, 1) := by decide +kernel
theorem dX5_leave_23 : decode cX5_leave 23 = .ok (.goto 4, 3) := by decide +kernel
theorem dX5_leave_26 : decode cX5_leave 26 = .ok (.iconst 0, 1) := by decide +kernel
theorem dX5_leave_27 : decode cX5_leave 27 = .ok (.iconst 1, 1) := by decide +kernel
theorem dX5_leave_28 : decode cX5_leave 28 = .ok (.invokevirtual 86, 3) := by decide +kernel
theorem dX5_leave_31 : decode cX5_leave 31 = .ok (.ifCond .ne 21, 3) := by decide +kernel
theorem dX5_leave_34 : decode cX5_leave 34 = .ok (.aload_n 0, 1) := by decide +kernel
theorem dX5_leave_35 : decode cX5_leave 35 = .ok (.iload_n 1, 1) := by decide +kernel
theorem dX5_leave_36 : decode cX5_leave 36 = .ok (.iload_n 2, 1) := by decide +kernel
theorem dX5_leave_37 : decode cX5_leave 37 = .ok (.if_icmp .ne 7, 3) := by decide +kernel
theorem dX5_leave_40 : decode cX5_leave 40 = .ok (.iconst 1, 1) := by decide +kernel
theorem dX5_leave_41 : decode cX5_leave 41 = .ok (.goto 4, 3) := by decide +kernel
theorem dX5_leave_44 : decode cX5_leave 44 = .ok (.iconst 0, 1) := by decide +kernel
theorem dX5_leave_45 : decode cX5_leave 45 = .ok (.iconst 2, 1) := by decide +kernel
theorem dX5_leave_46 : decode cX5_leave 46 = .ok (.invokevirtual 86, 3) := by decide +kernel
theorem dX5_leave_49 : decode cX5_leave 49 = .ok (.ifCond .eq 5, 3) := by decide +kernel
theorem dX5_leave_52 : decode cX5_leave 52 = .ok (.iconst 0, 1) := by decide +kernel
theorem dX5_leave_53 : decode cX5_leave 53 = .ok (.ireturn, 1) := by decide +kernel
theorem dX5_leave_54 : decode cX5_leave 54 = .ok (.aload_n 0, 1) := by decide +kernel
theorem dX5_leave_55 : decode cX5_leave 55 = .ok (.getfield 16, 3) := by decide +kernel
theorem dX5_leave_58 : decode cX5_leave 58 = .ok (.iload_n 1, 1) := by decide +kernel
theorem dX5_leave_59 : decode cX5_leave 59 = .ok (.iaload, 1) := by decide +kernel
theorem dX5_leave_60 : decode cX5_leave 60 = .ok (.istore_n 3, 1) := by decide +kernel
theorem dX5_leave_61 : decode cX5_leave 61 = .ok (.aload_n 0, 1) := by decide +kernel
theorem dX5_leave_62 : decode cX5_leave 62 = .ok (.getfield 9, 3) := by decide +kernel
theorem dX5_leave_65 : decode cX5_leave 65 = .ok (.iload_n 1, 1) := by decide +kernel
theorem dX5_leave_66 : decode cX5_leave 66 = .ok (.iconst 1, 1) := by decide +kernel
theorem dX5_leave_67 : decode cX5_leave 67 = .ok (.bastore, 1) := by decide +kernel
theorem dX5_leave_68 : decode cX5_leave 68 = .ok (.aload_n 0, 1) := by decide +kernel
theorem dX5_leave_69 : decode cX5_leave 69 = .ok (.getfield 16, 3) := by decide +kernel
theorem dX5_leave_72 : decode cX5_leave 72 = .ok (.iload_n 1, 1) := by decide +kernel
theorem dX5_leave_73 : decode cX5_leave 73 = .ok (.iload_n 2, 1) := by decide +kernel
theorem dX5_leave_74 : decode cX5_leave 74 = .ok (.iastore, 1) := by decide +kernel
theorem dX5_leave_75 : decode cX5_leave 75 = .ok (.iload_n 3, 1) := by decide +kernel
theorem dX5_leave_76 : decode cX5_leave 76 = .ok (.ireturn, 1) := by decide +kernel
theorem dX5_comeBack_0 : decode cX5_comeBack 0 = .ok (.aload_n 0, 1) := by decide +kernel
theorem dX5_comeBack_1 : decode cX5_comeBack 1 = .ok (.aload_n 0, 1) := by decide +kernel
theorem dX5_comeBack_2 : decode cX5_comeBack 2 = .ok (.iload_n 1, 1) := by decide +kernel
theorem dX5_comeBack_3 : decode cX5_comeBack 3 = .ok (.invokevirtual 93, 3) := by decide +kernel
theorem dX5_comeBack_6 : decode cX5_comeBack 6 = .ok (.iconst 1, 1) := by decide +kernel
theorem dX5_comeBack_7 : decode cX5_comeBack 7 = .ok (.invokevirtual 86, 3) := by decide +kernel
theorem dX5_comeBack_10 : decode cX5_comeBack 10 = .ok (.ifCond .ne 25, 3) := by decide +kernel
theorem dX5_comeBack_13 : decode cX5_comeBack 13 = .ok (.aload_n 0, 1) := by decide +kernel
theorem dX5_comeBack_14 : decode cX5_comeBack 14 = .ok (.aload_n 0, 1) := by decide +kernel
theorem dX5_comeBack_15 : decode cX5_comeBack 15 = .ok (.getfield 9, 3) := by decide +kernel
theorem dX5_comeBack_18 : decode cX5_comeBack 18 = .ok (.iload_n 1, 1) := by decide +kernel
theorem dX5_comeBack_19 : decode cX5_comeBack 19 = .ok (.baload, 1) := by decide +kernel
theorem dX5_comeBack_20 : decode cX5_comeBack 20 = .ok (.ifCond .ne 7, 3) := by decide +kernel
theorem dX5_comeBack_23 : decode cX5_comeBack 23 = .ok (.iconst 1, 1) := by decide +kernel
theorem dX5_comeBack_24 : decode cX5_comeBack 24 = .ok (.goto 4, 3) := by decide +kernel
theorem dX5_comeBack_27 : decode cX5_comeBack 27 = .ok (.iconst 0, 1) := by decide +kernel
theorem dX5_comeBack_28 : decode cX5_comeBack 28 = .ok (.iconst 2, 1) := by decide +kernel
theorem dX5_comeBack_29 : decode cX5_comeBack 29 = .ok (.invokevirtual 86, 3) := by decide +kernel
theorem dX5_comeBack_32 : decode cX5_comeBack 32 = .ok (.ifCond .eq 5, 3) := by decide +kernel
theorem dX5_comeBack_35 : decode cX5_comeBack 35 = .ok (.iconst 0, 1) := by decide +kernel
theorem dX5_comeBack_36 : decode cX5_comeBack 36 = .ok (.ireturn, 1) := by decide +kernel
theorem dX5_comeBack_37 : decode cX5_comeBack 37 = .ok (.aload_n 0, 1) := by decide +kernel
theorem dX5_comeBack_38 : decode cX5_comeBack 38 = .ok (.getfield 16, 3) := by decide +kernel
theorem dX5_comeBack_41 : decode cX5_comeBack 41 = .ok (.iload_n 1, 1) := by decide +kernel
theorem dX5_comeBack_42 : decode cX5_comeBack 42 = .ok (.iaload, 1) := by decide +kernel
theorem dX5_comeBack_43 : decode cX5_comeBack 43 = .ok (.istore_n 2, 1) := by decide +kernel
theorem dX5_comeBack_44 : decode cX5_comeBack 44 = .ok (.aload_n 0, 1) := by decide +kernel
theorem dX5_comeBack_45 : decode cX5_comeBack 45 = .ok (.getfield 9, 3) := by decide +kernel
theorem dX5_comeBack_48 : decode cX5_comeBack 48 = .ok (.iload_n 1, 1) := by decide +kernel
theorem dX5_comeBack_49 : decode cX5_comeBack 49 = .ok (.iconst 0, 1) := by decide +kernel
theorem dX5_comeBack_50 : decode cX5_comeBack 50 = .ok (.bastore, 1) := by decide +kernel
theorem dX5_comeBack_51 : decode cX5_comeBack 51 = .ok (.aload_n 0, 1) := by decide +kernel
theorem dX5_comeBack_52 : decode cX5_comeBack 52 = .ok (.getfield 16, 3) := by decide +kernel
theorem dX5_comeBack_55 : decode cX5_comeBack 55 = .ok (.iload_n 1, 1) := by decide +kernel
theorem dX5_comeBack_56 : decode cX5_comeBack 56 = .ok (.iconst (-1), 1) := by decide +kernel
theorem dX5_comeBack_57 : decode cX5_comeBack 57 = .ok (.iastore, 1) := by decide +kernel
theorem dX5_comeBack_58 : decode cX5_comeBack 58 = .ok (.iload_n 2, 1) := by decide +kernel
theorem dX5_comeBack_59 : decode cX5_comeBack 59 = .ok (.ireturn, 1) := by decide +kernel
theorem dX5_acts_0 : decode cX5_acts 0 = .ok (.iload_n 1, 1) := by decide +kernel
theorem dX5_acts_1 : decode cX5_acts 1 = .ok (.iload_n 2, 1) := by decide +kernel
theorem dX5_acts_2 : decode cX5_acts 2 = .ok (.if_icmp .eq 22, 3) := by decide +kernel
theorem dX5_acts_5 : decode cX5_acts 5 = .ok (.aload_n 0, 1) := by decide +kernel
theorem dX5_acts_6 : decode cX5_acts 6 = .ok (.getfield 9, 3) := by decide +kernel
theorem dX5_acts_9 : decode cX5_acts 9 = .ok (.iload_n 2, 1) := by decide +kernel
theorem dX5_acts_10 : decode cX5_acts 10 = .ok (.baload, 1) := by decide +kernel
theorem dX5_acts_11 : decode cX5_acts 11 = .ok (.ifCond .eq 17, 3) := by decide +kernel
theorem dX5_acts_14 : decode cX5_acts 14 = .ok (.aload_n 0, 1) := by decide +kernel
theorem dX5_acts_15 : decode cX5_acts 15 = .ok (.getfield 16, 3) := by decide +kernel
theorem dX5_acts_18 : decode cX5_acts 18 = .ok (.iload_n 2, 1) := by decide +kernel
theorem dX5_acts_19 : decode cX5_acts 19 = .ok (.iaload, 1) := by decide +kernel
theorem dX5_acts_20 : decode cX5_acts 20 = .ok (.iload_n 1, 1) := by decide +kernel
theorem dX5_acts_21 : decode cX5_acts 21 = .ok (.if_icmp .ne 7, 3) := by decide +kernel
theorem dX5_acts_24 : decode cX5_acts 24 = .ok (.iconst 1, 1) := by decide +kernel
theorem dX5_acts_25 : decode cX5_acts 25 = .ok (.goto 4, 3) := by decide +kernel
theorem dX5_acts_28 : decode cX5_acts 28 = .ok (.iconst 0, 1) := by decide +kernel
theorem dX5_acts_29 : decode cX5_acts 29 = .ok (.ireturn, 1) := by decide +kernel
theorem dX5_actsFor_0 : decode cX5_actsFor 0 = .ok (.aload_n 0, 1) := by decide +kernel
theorem dX5_actsFor_1 : decode cX5_actsFor 1 = .ok (.aload_n 0, 1) := by decide +kernel
theorem dX5_actsFor_2 : decode cX5_actsFor 2 = .ok (.iload_n 1, 1) := by decide +kernel
theorem dX5_actsFor_3 : decode cX5_actsFor 3 = .ok (.invokevirtual 93, 3) := by decide +kernel
theorem dX5_actsFor_6 : decode cX5_actsFor 6 = .ok (.ifCond .ne 11, 3) := by decide +kernel
theorem dX5_actsFor_9 : decode cX5_actsFor 9 = .ok (.aload_n 0, 1) := by decide +kernel
theorem dX5_actsFor_10 : decode cX5_actsFor 10 = .ok (.iload_n 2, 1) := by decide +kernel
theorem dX5_actsFor_11 : decode cX5_actsFor 11 = .ok (.invokevirtual 93, 3) := by decide +kernel
theorem dX5_actsFor_14 : decode cX5_actsFor 14 = .ok (.ifCond .eq 7, 3) := by decide +kernel
theorem dX5_actsFor_17 : decode cX5_actsFor 17 = .ok (.iconst 1, 1) := by decide +kernel
theorem dX5_actsFor_18 : decode cX5_actsFor 18 = .ok (.goto 4, 3) := by decide +kernel
theorem dX5_actsFor_21 : decode cX5_actsFor 21 = .ok (.iconst 0, 1) := by decide +kernel
theorem dX5_actsFor_22 : decode cX5_actsFor 22 = .ok (.iconst 1, 1) := by decide +kernel
theorem dX5_actsFor_23 : decode cX5_actsFor 23 = .ok (.invokevirtual 86, 3) := by decide +kernel
theorem dX5_actsFor_26 : decode cX5_actsFor 26 = .ok (.ifCond .ne 16, 3) := by decide +kernel
theorem dX5_actsFor_29 : decode cX5_actsFor 29 = .ok (.aload_n 0, 1) := by decide +kernel
theorem dX5_actsFor_30 : decode cX5_actsFor 30 = .ok (.iload_n 1, 1) := by decide +kernel
theorem dX5_actsFor_31 : decode cX5_actsFor 31 = .ok (.iload_n 2, 1) := by decide +kernel
theorem dX5_actsFor_32 : decode cX5_actsFor 32 = .ok (.invokevirtual 97, 3) := by decide +kernel
theorem dX5_actsFor_35 : decode cX5_actsFor 35 = .ok (.ifCond .eq 7, 3) := by decide +kernel
theorem dX5_actsFor_38 : decode cX5_actsFor 38 = .ok (.iconst 1, 1) := by decide +kernel
theorem dX5_actsFor_39 : decode cX5_actsFor 39 = .ok (.goto 4, 3) := by decide +kernel
theorem dX5_actsFor_42 : decode cX5_actsFor 42 = .ok (.iconst 0, 1) := by decide +kernel
theorem dX5_actsFor_43 : decode cX5_actsFor 43 = .ok (.ireturn, 1) := by decide +kernel
theorem dX5_isPower_0 : decode cX5_isPower 0 = .ok (.iload_n 0, 1) := by decide +kernel
theorem dX5_isPower_1 : decode cX5_isPower 1 = .ok (.iconst 1, 1) := by decide +kernel
theorem dX5_isPower_2 : decode cX5_isPower 2 = .ok (.ldc 101, 2) := by decide +kernel
theorem dX5_isPower_4 : decode cX5_isPower 4 = .ok (.invokestatic 79, 3) := by decide +kernel
theorem dX5_isPower_7 : decode cX5_isPower 7 = .ok (.ifCond .eq 23, 3) := by decide +kernel
theorem dX5_isPower_10 : decode cX5_isPower 10 = .ok (.iload_n 1, 1) := by decide +kernel
theorem dX5_isPower_11 : decode cX5_isPower 11 = .ok (.ifCond .lt 19, 3) := by decide +kernel
theorem dX5_isPower_14 : decode cX5_isPower 14 = .ok (.iload_n 2, 1) := by decide +kernel
theorem dX5_isPower_15 : decode cX5_isPower 15 = .ok (.iload_n 1, 1) := by decide +kernel
theorem dX5_isPower_16 : decode cX5_isPower 16 = .ok (.if_icmp .lt 14, 3) := by decide +kernel
theorem dX5_isPower_19 : decode cX5_isPower 19 = .ok (.iload_n 2, 1) := by decide +kernel
theorem dX5_isPower_20 : decode cX5_isPower 20 = .ok (.sipush 999, 3) := by decide +kernel
theorem dX5_isPower_23 : decode cX5_isPower 23 = .ok (.if_icmp .gt 7, 3) := by decide +kernel
theorem dX5_isPower_26 : decode cX5_isPower 26 = .ok (.iconst 1, 1) := by decide +kernel
theorem dX5_isPower_27 : decode cX5_isPower 27 = .ok (.goto 4, 3) := by decide +kernel
theorem dX5_isPower_30 : decode cX5_isPower 30 = .ok (.iconst 0, 1) := by decide +kernel
theorem dX5_isPower_31 : decode cX5_isPower 31 = .ok (.ireturn, 1) := by decide +kernel
theorem dX5_adds_0 : decode cX5_adds 0 = .ok (.aload_n 0, 1) := by decide +kernel
theorem dX5_adds_1 : decode cX5_adds 1 = .ok (.getfield 20, 3) := by decide +kernel
theorem dX5_adds_4 : decode cX5_adds 4 = .ok (.aload_n 0, 1) := by decide +kernel
theorem dX5_adds_5 : decode cX5_adds 5 = .ok (.getfield 83, 3) := by decide +kernel
theorem dX5_adds_8 : decode cX5_adds 8 = .ok (.iload_n 1, 1) := by decide +kernel
theorem dX5_adds_9 : decode cX5_adds 9 = .ok (.iastore, 1) := by decide +kernel
theorem dX5_adds_10 : decode cX5_adds 10 = .ok (.aload_n 0, 1) := by decide +kernel
theorem dX5_adds_11 : decode cX5_adds 11 = .ok (.getfield 23, 3) := by decide +kernel
theorem dX5_adds_14 : decode cX5_adds 14 = .ok (.aload_n 0, 1) := by decide +kernel
theorem dX5_adds_15 : decode cX5_adds 15 = .ok (.getfield 83, 3) := by decide +kernel
theorem dX5_adds_18 : decode cX5_adds 18 = .ok (.iload_n 2, 1) := by decide +kernel
theorem dX5_adds_19 : decode cX5_adds 19 = .ok (.iastore, 1) := by decide +kernel
theorem dX5_adds_20 : decode cX5_adds 20 = .ok (.aload_n 0, 1) := by decide +kernel
theorem dX5_adds_21 : decode cX5_adds 21 = .ok (.getfield 38, 3) := by decide +kernel
theorem dX5_adds_24 : decode cX5_adds 24 = .ok (.aload_n 0, 1) := by decide +kernel
theorem dX5_adds_25 : decode cX5_adds 25 = .ok (.getfield 83, 3) := by decide +kernel
theorem dX5_adds_28 : decode cX5_adds 28 = .ok (.iload_n 3, 1) := by decide +kernel
theorem dX5_adds_29 : decode cX5_adds 29 = .ok (.castore, 1) := by decide +kernel
theorem dX5_adds_30 : decode cX5_adds 30 = .ok (.aload_n 0, 1) := by decide +kernel
theorem dX5_adds_31 : decode cX5_adds 31 = .ok (.getfield 26, 3) := by decide +kernel
theorem dX5_adds_34 : decode cX5_adds 34 = .ok (.aload_n 0, 1) := by decide +kernel
theorem dX5_adds_35 : decode cX5_adds 35 = .ok (.getfield 83, 3) := by decide +kernel
theorem dX5_adds_38 : decode cX5_adds 38 = .ok (.iload 4, 2) := by decide +kernel
theorem dX5_adds_40 : decode cX5_adds 40 = .ok (.iastore, 1) := by decide +kernel
theorem dX5_adds_41 : decode cX5_adds 41 = .ok (.aload_n 0, 1) := by decide +kernel
theorem dX5_adds_42 : decode cX5_adds 42 = .ok (.getfield 29, 3) := by decide +kernel
theorem dX5_adds_45 : decode cX5_adds 45 = .ok (.aload_n 0, 1) := by decide +kernel
theorem dX5_adds_46 : decode cX5_adds 46 = .ok (.getfield 83, 3) := by decide +kernel
theorem dX5_adds_49 : decode cX5_adds 49 = .ok (.iload 5, 2) := by decide +kernel
theorem dX5_adds_51 : decode cX5_adds 51 = .ok (.iastore, 1) := by decide +kernel
theorem dX5_adds_52 : decode cX5_adds 52 = .ok (.aload_n 0, 1) := by decide +kernel
theorem dX5_adds_53 : decode cX5_adds 53 = .ok (.getfield 32, 3) := by decide +kernel
theorem dX5_adds_56 : decode cX5_adds 56 = .ok (.aload_n 0, 1) := by decide +kernel
theorem dX5_adds_57 : decode cX5_adds 57 = .ok (.getfield 83, 3) := by decide +kernel
theorem dX5_adds_60 : decode cX5_adds 60 = .ok (.iload 6, 2) := by decide +kernel
theorem dX5_adds_62 : decode cX5_adds 62 = .ok (.iastore, 1) := by decide +kernel
theorem dX5_adds_63 : decode cX5_adds 63 = .ok (.aload_n 0, 1) := by decide +kernel
theorem dX5_adds_64 : decode cX5_adds 64 = .ok (.getfield 35, 3) := by decide +kernel
theorem dX5_adds_67 : decode cX5_adds 67 = .ok (.aload_n 0, 1) := by decide +kernel
theorem dX5_adds_68 : decode cX5_adds 68 = .ok (.getfield 83, 3) := by decide +kernel
theorem dX5_adds_71 : decode cX5_adds 71 = .ok (.iload 7, 2) := by decide +kernel
theorem dX5_adds_73 : decode cX5_adds 73 = .ok (.iastore, 1) := by decide +kernel
theorem dX5_adds_74 : decode cX5_adds 74 = .ok (.aload_n 0, 1) := by decide +kernel
theorem dX5_adds_75 : decode cX5_adds 75 = .ok (.dup, 1) := by decide +kernel
theorem dX5_adds_76 : decode cX5_adds 76 = .ok (.getfield 83, 3) := by decide +kernel
theorem dX5_adds_79 : decode cX5_adds 79 = .ok (.iconst 1, 1) := by decide +kernel
theorem dX5_adds_80 : decode cX5_adds 80 = .ok (.iadd, 1) := by decide +kernel
theorem dX5_adds_81 : decode cX5_adds 81 = .ok (.putfield 83, 3) := by decide +kernel
theorem dX5_adds_84 : decode cX5_adds 84 = .ok (.aload_n 0, 1) := by decide +kernel
theorem dX5_adds_85 : decode cX5_adds 85 = .ok (.getfield 83, 3) := by decide +kernel
theorem dX5_adds_88 : decode cX5_adds 88 = .ok (.iconst 1, 1) := by decide +kernel
theorem dX5_adds_89 : decode cX5_adds 89 = .ok (.isub, 1) := by decide +kernel
theorem dX5_adds_90 : decode cX5_adds 90 = .ok (.ireturn, 1) := by decide +kernel
theorem dX5_grant_0 : decode cX5_grant 0 = .ok (.iload_n 3, 1) := by decide +kernel
theorem dX5_grant_1 : decode cX5_grant 1 = .ok (.bipush 115, 2) := by decide +kernel
theorem dX5_grant_3 : decode cX5_grant 3 = .ok (.if_icmp .eq 15, 3) := by decide +kernel
theorem dX5_grant_6 : decode cX5_grant 6 = .ok (.iload_n 3, 1) := by decide +kernel
theorem dX5_grant_7 : decode cX5_grant 7 = .ok (.bipush 97, 2) := by decide +kernel
theorem dX5_grant_9 : decode cX5_grant 9 = .ok (.if_icmp .eq 9, 3) := by decide +kernel
theorem dX5_grant_12 : decode cX5_grant 12 = .ok (.iload_n 3, 1) := by decide +kernel
theorem dX5_grant_13 : decode cX5_grant 13 = .ok (.bipush 98, 2) := by decide +kernel
theorem dX5_grant_15 : decode cX5_grant 15 = .ok (.if_icmp .ne 7, 3) := by decide +kernel
theorem dX5_grant_18 : decode cX5_grant 18 = .ok (.iconst 1, 1) := by decide +kernel
theorem dX5_grant_19 : decode cX5_grant 19 = .ok (.goto 4, 3) := by decide +kernel
theorem dX5_grant_22 : decode cX5_grant 22 = .ok (.iconst 0, 1) := by decide +kernel
theorem dX5_grant_23 : decode cX5_grant 23 = .ok (.istore 7, 2) := by decide +kernel
theorem dX5_grant_25 : decode cX5_grant 25 = .ok (.aload_n 0, 1) := by decide +kernel
theorem dX5_grant_26 : decode cX5_grant 26 = .ok (.aload_n 0, 1) := by decide +kernel
theorem dX5_grant_27 : decode cX5_grant 27 = .ok (.iload_n 1, 1) := by decide +kernel
theorem dX5_grant_28 : decode cX5_grant 28 = .ok (.invokevirtual 93, 3) := by decide +kernel
theorem dX5_grant_31 : decode cX5_grant 31 = .ok (.iconst 1, 1) := by decide +kernel
theorem dX5_grant_32 : decode cX5_grant 32 = .ok (.invokevirtual 86, 3) := by decide +kernel
theorem dX5_grant_35 : decode cX5_grant 35 = .ok (.ifCond .ne 64, 3) := by decide +kernel
theorem dX5_grant_38 : decode cX5_grant 38 = .ok (.aload_n 0, 1) := by decide +kernel
theorem dX5_grant_39 : decode cX5_grant 39 = .ok (.iload_n 2, 1) := by decide +kernel
theorem dX5_grant_40 : decode cX5_grant 40 = .ok (.iconst 0, 1) := by decide +kernel
theorem dX5_grant_41 : decode cX5_grant 41 = .ok (.iconst 3, 1) := by decide +kernel
theorem dX5_grant_42 : decode cX5_grant 42 = .ok (.invokestatic 79, 3) := by decide +kernel
theorem dX5_grant_45 : decode cX5_grant 45 = .ok (.ifCond .eq 20, 3) := by decide +kernel
theorem dX5_grant_48 : decode cX5_grant 48 = .ok (.iload 7, 2) := by decide +kernel
theorem dX5_grant_50 : decode cX5_grant 50 = .ok (.ifCond .eq 15, 3) := by decide +kernel
theorem dX5_grant_53 : decode cX5_grant 53 = .ok (.iload 4, 2) := by decide +kernel
theorem dX5_grant_55 : decode cX5_grant 55 = .ok (.iload 5, 2) := by decide +kernel
theorem dX5_grant_57 : decode cX5_grant 57 = .ok (.iload 6, 2) := by decide +kernel
theorem dX5_grant_59 : decode cX5_grant 59 = .ok (.invokestatic 102, 3) := by decide +kernel
theorem dX5_grant_62 : decode cX5_grant 62 = .ok (.ifCond .ne 7, 3) := by decide +kernel
theorem dX5_grant_65 : decode cX5_grant 65 = .ok (.iconst 1, 1) := by decide +kernel
theorem dX5_grant_66 : decode cX5_grant 66 = .ok (.goto 4, 3) := by decide +kernel
theorem dX5_grant_69 : decode cX5_grant 69 = .ok (.iconst 0, 1) := by decide +kernel
theorem dX5_grant_70 : decode cX5_grant 70 = .ok (.iconst 2, 1) := by decide +kernel
theorem dX5_grant_71 : decode cX5_grant 71 = .ok (.invokevirtual 86, 3) := by decide +kernel
theorem dX5_grant_74 : decode cX5_grant 74 = .ok (.ifCond .ne 25, 3) := by decide +kernel
theorem dX5_grant_77 : decode cX5_grant 77 = .ok (.aload_n 0, 1) := by decide +kernel
theorem dX5_grant_78 : decode cX5_grant 78 = .ok (.aload_n 0, 1) := by decide +kernel
theorem dX5_grant_79 : decode cX5_grant 79 = .ok (.getfield 83, 3) := by decide +kernel
theorem dX5_grant_82 : decode cX5_grant 82 = .ok (.bipush 20, 2) := by decide +kernel
theorem dX5_grant_84 : decode cX5_grant 84 = .ok (.if_icmp .ne 7, 3) := by decide +kernel
theorem dX5_grant_87 : decode cX5_grant 87 = .ok (.iconst 1, 1) := by decide +kernel
theorem dX5_grant_88 : decode cX5_grant 88 = .ok (.goto 4, 3) := by decide +kernel
theorem dX5_grant_91 : decode cX5_grant 91 = .ok (.iconst 0, 1) := by decide +kernel
theorem dX5_grant_92 : decode cX5_grant 92 = .ok (.iconst 3, 1) := by decide +kernel
theorem dX5_grant_93 : decode cX5_grant 93 = .ok (.invokevirtual 86, 3) := by decide +kernel
theorem dX5_grant_96 : decode cX5_grant 96 = .ok (.ifCond .eq 5, 3) := by decide +kernel
theorem dX5_grant_99 : decode cX5_grant 99 = .ok (.iconst 0, 1) := by decide +kernel
theorem dX5_grant_100 : decode cX5_grant 100 = .ok (.ireturn, 1) := by decide +kernel
theorem dX5_grant_101 : decode cX5_grant 101 = .ok (.aload_n 0, 1) := by decide +kernel
theorem dX5_grant_102 : decode cX5_grant 102 = .ok (.iload_n 1, 1) := by decide +kernel
theorem dX5_grant_103 : decode cX5_grant 103 = .ok (.iload_n 2, 1) := by decide +kernel
theorem dX5_grant_104 : decode cX5_grant 104 = .ok (.iload_n 3, 1) := by decide +kernel
theorem dX5_grant_105 : decode cX5_grant 105 = .ok (.iload 4, 2) := by decide +kernel
theorem dX5_grant_107 : decode cX5_grant 107 = .ok (.iload 5, 2) := by decide +kernel
theorem dX5_grant_109 : decode cX5_grant 109 = .ok (.iload 6, 2) := by decide +kernel
theorem dX5_grant_111 : decode cX5_grant 111 = .ok (.iconst (-1), 1) := by decide +kernel
theorem dX5_grant_112 : decode cX5_grant 112 = .ok (.invokevirtual 105, 3) := by decide +kernel
theorem dX5_grant_115 : decode cX5_grant 115 = .ok (.ireturn, 1) := by decide +kernel
theorem dX5_delegate_0 : decode cX5_delegate 0 = .ok (.aload_n 0, 1) := by decide +kernel
theorem dX5_delegate_1 : decode cX5_delegate 1 = .ok (.iload_n 1, 1) := by decide +kernel
theorem dX5_delegate_2 : decode cX5_delegate 2 = .ok (.iconst 0, 1) := by decide +kernel
theorem dX5_delegate_3 : decode cX5_delegate 3 = .ok (.aload_n 0, 1) := by decide +kernel
theorem dX5_delegate_4 : decode cX5_delegate 4 = .ok (.getfield 83, 3) := by decide +kernel
theorem dX5_delegate_7 : decode cX5_delegate 7 = .ok (.iconst 1, 1) := by decide +kernel
theorem dX5_delegate_8 : decode cX5_delegate 8 = .ok (.isub, 1) := by decide +kernel
theorem dX5_delegate_9 : decode cX5_delegate 9 = .ok (.invokestatic 79, 3) := by decide +kernel
theorem dX5_delegate_12 : decode cX5_delegate 12 = .ok (.ifCond .eq 11, 3) := by decide +kernel
theorem dX5_delegate_15 : decode cX5_delegate 15 = .ok (.aload_n 0, 1) := by decide +kernel
theorem dX5_delegate_16 : decode cX5_delegate 16 = .ok (.iload_n 2, 1) := by decide +kernel
theorem dX5_delegate_17 : decode cX5_delegate 17 = .ok (.invokevirtual 93, 3) := by decide +kernel
theorem dX5_delegate_20 : decode cX5_delegate 20 = .ok (.ifCond .eq 7, 3) := by decide +kernel
theorem dX5_delegate_23 : decode cX5_delegate 23 = .ok (.iconst 1, 1) := by decide +kernel
theorem dX5_delegate_24 : decode cX5_delegate 24 = .ok (.goto 4, 3) := by decide +kernel
theorem dX5_delegate_27 : decode cX5_delegate 27 = .ok (.iconst 0, 1) := by decide +kernel
theorem dX5_delegate_28 : decode cX5_delegate 28 = .ok (.iconst 1, 1) := by decide +kernel
theorem dX5_delegate_29 : decode cX5_delegate 29 = .ok (.invokevirtual 86, 3) := by decide +kernel
theorem dX5_delegate_32 : decode cX5_delegate 32 = .ok (.ifCond .ne 27, 3) := by decide +kernel
theorem dX5_delegate_35 : decode cX5_delegate 35 = .ok (.aload_n 0, 1) := by decide +kernel
theorem dX5_delegate_36 : decode cX5_delegate 36 = .ok (.iload_n 3, 1) := by decide +kernel
theorem dX5_delegate_37 : decode cX5_delegate 37 = .ok (.iload 4, 2) := by decide +kernel
theorem dX5_delegate_39 : decode cX5_delegate 39 = .ok (.iload 5, 2) := by decide +kernel
theorem dX5_delegate_41 : decode cX5_delegate 41 = .ok (.invokestatic 102, 3) := by decide +kernel
theorem dX5_delegate_44 : decode cX5_delegate 44 = .ok (.ifCond .ne 7, 3) := by decide +kernel
theorem dX5_delegate_47 : decode cX5_delegate 47 = .ok (.iconst 1, 1) := by decide +kernel
theorem dX5_delegate_48 : decode cX5_delegate 48 = .ok (.goto 4, 3) := by decide +kernel
theorem dX5_delegate_51 : decode cX5_delegate 51 = .ok (.iconst 0, 1) := by decide +kernel
theorem dX5_delegate_52 : decode cX5_delegate 52 = .ok (.iconst 2, 1) := by decide +kernel
theorem dX5_delegate_53 : decode cX5_delegate 53 = .ok (.invokevirtual 86, 3) := by decide +kernel
theorem dX5_delegate_56 : decode cX5_delegate 56 = .ok (.ifCond .eq 5, 3) := by decide +kernel
theorem dX5_delegate_59 : decode cX5_delegate 59 = .ok (.iconst 0, 1) := by decide +kernel
theorem dX5_delegate_60 : decode cX5_delegate 60 = .ok (.ireturn, 1) := by decide +kernel
theorem dX5_delegate_61 : decode cX5_delegate 61 = .ok (.iload_n 2, 1) := by decide +kernel
theorem dX5_delegate_62 : decode cX5_delegate 62 = .ok (.aload_n 0, 1) := by decide +kernel
theorem dX5_delegate_63 : decode cX5_delegate 63 = .ok (.getfield 20, 3) := by decide +kernel
theorem dX5_delegate_66 : decode cX5_delegate 66 = .ok (.iload_n 1, 1) := by decide +kernel
theorem dX5_delegate_67 : decode cX5_delegate 67 = .ok (.iaload, 1) := by decide +kernel
theorem dX5_delegate_68 : decode cX5_delegate 68 = .ok (.if_icmp .eq 39, 3) := by decide +kernel
theorem dX5_delegate_71 : decode cX5_delegate 71 = .ok (.iload_n 3, 1) := by decide +kernel
theorem dX5_delegate_72 : decode cX5_delegate 72 = .ok (.aload_n 0, 1) := by decide +kernel
theorem dX5_delegate_73 : decode cX5_delegate 73 = .ok (.getfield 26, 3) := by decide +kernel
theorem dX5_delegate_76 : decode cX5_delegate 76 = .ok (.iload_n 1, 1) := by decide +kernel
theorem dX5_delegate_77 : decode cX5_delegate 77 = .ok (.iaload, 1) := by decide +kernel
theorem dX5_delegate_78 : decode cX5_delegate 78 = .ok (.if_icmp .gt 29, 3) := by decide +kernel
theorem dX5_delegate_81 : decode cX5_delegate 81 = .ok (.iload 4, 2) := by decide +kernel
theorem dX5_delegate_83 : decode cX5_delegate 83 = .ok (.aload_n 0, 1) := by decide +kernel
theorem dX5_delegate_84 : decode cX5_delegate 84 = .ok (.getfield 29, 3) := by decide +kernel
theorem dX5_delegate_87 : decode cX5_delegate 87 = .ok (.iload_n 1, 1) := by decide +kernel
theorem dX5_delegate_88 : decode cX5_delegate 88 = .ok (.iaload, 1) := by decide +kernel
theorem dX5_delegate_89 : decode cX5_delegate 89 = .ok (.if_icmp .lt 18, 3) := by decide +kernel
theorem dX5_delegate_92 : decode cX5_delegate 92 = .ok (.iload 5, 2) := by decide +kernel
theorem dX5_delegate_94 : decode cX5_delegate 94 = .ok (.aload_n 0, 1) := by decide +kernel
theorem dX5_delegate_95 : decode cX5_delegate 95 = .ok (.getfield 32, 3) := by decide +kernel
theorem dX5_delegate_98 : decode cX5_delegate 98 = .ok (.iload_n 1, 1) := by decide +kernel
theorem dX5_delegate_99 : decode cX5_delegate 99 = .ok (.iaload, 1) := by decide +kernel
theorem dX5_delegate_100 : decode cX5_delegate 100 = .ok (.if_icmp .gt 7, 3) := by decide +kernel
theorem dX5_delegate_103 : decode cX5_delegate 103 = .ok (.iconst 1, 1) := by decide +kernel
theorem dX5_delegate_104 : decode cX5_delegate 104 = .ok (.goto 4, 3) := by decide +kernel
theorem dX5_delegate_107 : decode cX5_delegate 107 = .ok (.iconst 0, 1) := by decide +kernel
theorem dX5_delegate_108 : decode cX5_delegate 108 = .ok (.istore 6, 2) := by decide +kernel
theorem dX5_delegate_110 : decode cX5_delegate 110 = .ok (.aload_n 0, 1) := by decide +kernel
theorem dX5_delegate_111 : decode cX5_delegate 111 = .ok (.iload 6, 2) := by decide +kernel
theorem dX5_delegate_113 : decode cX5_delegate 113 = .ok (.ifCond .ne 7, 3) := by decide +kernel
theorem dX5_delegate_116 : decode cX5_delegate 116 = .ok (.iconst 1, 1) := by decide +kernel
theorem dX5_delegate_117 : decode cX5_delegate 117 = .ok (.goto 4, 3) := by decide +kernel
theorem dX5_delegate_120 : decode cX5_delegate 120 = .ok (.iconst 0, 1) := by decide +kernel
theorem dX5_delegate_121 : decode cX5_delegate 121 = .ok (.iconst 3, 1) := by decide +kernel
theorem dX5_delegate_122 : decode cX5_delegate 122 = .ok (.invokevirtual 86, 3) := by decide +kernel
theorem dX5_delegate_125 : decode cX5_delegate 125 = .ok (.ifCond .ne 34, 3) := by decide +kernel
theorem dX5_delegate_128 : decode cX5_delegate 128 = .ok (.aload_n 0, 1) := by decide +kernel
theorem dX5_delegate_129 : decode cX5_delegate 129 = .ok (.aload_n 0, 1) := by decide +kernel
theorem dX5_delegate_130 : decode cX5_delegate 130 = .ok (.getfield 13, 3) := by decide +kernel
theorem dX5_delegate_133 : decode cX5_delegate 133 = .ok (.iload_n 1, 1) := by decide +kernel
theorem dX5_delegate_134 : decode cX5_delegate 134 = .ok (.baload, 1) := by decide +kernel
theorem dX5_delegate_135 : decode cX5_delegate 135 = .ok (.ifCond .ne 12, 3) := by decide +kernel
theorem dX5_delegate_138 : decode cX5_delegate 138 = .ok (.aload_n 0, 1) := by decide +kernel
theorem dX5_delegate_139 : decode cX5_delegate 139 = .ok (.getfield 83, 3) := by decide +kernel
theorem dX5_delegate_142 : decode cX5_delegate 142 = .ok (.bipush 20, 2) := by decide +kernel
theorem dX5_delegate_144 : decode cX5_delegate 144 = .ok (.if_icmp .ne 7, 3) := by decide +kernel
theorem dX5_delegate_147 : decode cX5_delegate 147 = .ok (.iconst 1, 1) := by decide +kernel
theorem dX5_delegate_148 : decode cX5_delegate 148 = .ok (.goto 4, 3) := by decide +kernel
theorem dX5_delegate_151 : decode cX5_delegate 151 = .ok (.iconst 0, 1) := by decide +kernel
theorem dX5_delegate_152 : decode cX5_delegate 152 = .ok (.iconst 4, 1) := by decide +kernel
theorem dX5_delegate_153 : decode cX5_delegate 153 = .ok (.invokevirtual 86, 3) := by decide +kernel
theorem dX5_delegate_156 : decode cX5_delegate 156 = .ok (.ifCond .eq 5, 3) := by decide +kernel
theorem dX5_delegate_159 : decode cX5_delegate 159 = .ok (.iconst 0, 1) := by decide +kernel
theorem dX5_delegate_160 : decode cX5_delegate 160 = .ok (.ireturn, 1) := by decide +kernel
theorem dX5_delegate_161 : decode cX5_delegate 161 = .ok (.aload_n 0, 1) := by decide +kernel
theorem dX5_delegate_162 : decode cX5_delegate 162 = .ok (.iload_n 2, 1) := by decide +kernel
theorem dX5_delegate_163 : decode cX5_delegate 163 = .ok (.aload_n 0, 1) := by decide +kernel
theorem dX5_delegate_164 : decode cX5_delegate 164 = .ok (.getfield 23, 3) := by decide +kernel
theorem dX5_delegate_167 : decode cX5_delegate 167 = .ok (.iload_n 1, 1) := by decide +kernel
theorem dX5_delegate_168 : decode cX5_delegate 168 = .ok (.iaload, 1) := by decide +kernel
theorem dX5_delegate_169 : decode cX5_delegate 169 = .ok (.aload_n 0, 1) := by decide +kernel
theorem dX5_delegate_170 : decode cX5_delegate 170 = .ok (.getfield 38, 3) := by decide +kernel
theorem dX5_delegate_173 : decode cX5_delegate 173 = .ok (.iload_n 1, 1) := by decide +kernel
theorem dX5_delegate_174 : decode cX5_delegate 174 = .ok (.caload, 1) := by decide +kernel
theorem dX5_delegate_175 : decode cX5_delegate 175 = .ok (.iload_n 3, 1) := by decide +kernel
theorem dX5_delegate_176 : decode cX5_delegate 176 = .ok (.iload 4, 2) := by decide +kernel
theorem dX5_delegate_178 : decode cX5_delegate 178 = .ok (.iload 5, 2) := by decide +kernel
theorem dX5_delegate_180 : decode cX5_delegate 180 = .ok (.iload_n 1, 1) := by decide +kernel
theorem dX5_delegate_181 : decode cX5_delegate 181 = .ok (.invokevirtual 105, 3) := by decide +kernel
theorem dX5_delegate_184 : decode cX5_delegate 184 = .ok (.ireturn, 1) := by decide +kernel
theorem dX5_lower_0 : decode cX5_lower 0 = .ok (.aload_n 0, 1) := by decide +kernel
theorem dX5_lower_1 : decode cX5_lower 1 = .ok (.iload_n 1, 1) := by decide +kernel
theorem dX5_lower_2 : decode cX5_lower 2 = .ok (.invokevirtual 109, 3) := by decide +kernel
theorem dX5_lower_5 : decode cX5_lower 5 = .ok (.ifCond .ne 30, 3) := by decide +kernel
theorem dX5_lower_8 : decode cX5_lower 8 = .ok (.aload_n 0, 1) := by decide +kernel
theorem dX5_lower_9 : decode cX5_lower 9 = .ok (.iload_n 2, 1) := by decide +kernel
theorem dX5_lower_10 : decode cX5_lower 10 = .ok (.iconst 1, 1) := by decide +kernel
theorem dX5_lower_11 : decode cX5_lower 11 = .ok (.aload_n 0, 1) := by decide +kernel
theorem dX5_lower_12 : decode cX5_lower 12 = .ok (.getfield 26, 3) := by decide +kernel
theorem dX5_lower_15 : decode cX5_lower 15 = .ok (.iload_n 1, 1) := by decide +kernel
theorem dX5_lower_16 : decode cX5_lower 16 = .ok (.iaload, 1) := by decide +kernel
theorem dX5_lower_17 : decode cX5_lower 17 = .ok (.invokestatic 79, 3) := by decide +kernel
theorem dX5_lower_20 : decode cX5_lower 20 = .ok (.ifCond .ne 7, 3) := by decide +kernel
theorem dX5_lower_23 : decode cX5_lower 23 = .ok (.iconst 1, 1) := by decide +kernel
theorem dX5_lower_24 : decode cX5_lower 24 = .ok (.goto 4, 3) := by decide +kernel
theorem dX5_lower_27 : decode cX5_lower 27 = .ok (.iconst 0, 1) := by decide +kernel
theorem dX5_lower_28 : decode cX5_lower 28 = .ok (.iconst 2, 1) := by decide +kernel
theorem dX5_lower_29 : decode cX5_lower 29 = .ok (.invokevirtual 86, 3) := by decide +kernel
theorem dX5_lower_32 : decode cX5_lower 32 = .ok (.ifCond .eq 5, 3) := by decide +kernel
theorem dX5_lower_35 : decode cX5_lower 35 = .ok (.iconst 0, 1) := by decide +kernel
theorem dX5_lower_36 : decode cX5_lower 36 = .ok (.ireturn, 1) := by decide +kernel
theorem dX5_lower_37 : decode cX5_lower 37 = .ok (.aload_n 0, 1) := by decide +kernel
theorem dX5_lower_38 : decode cX5_lower 38 = .ok (.getfield 26, 3) := by decide +kernel
theorem dX5_lower_41 : decode cX5_lower 41 = .ok (.iload_n 1, 1) := by decide +kernel
theorem dX5_lower_42 : decode cX5_lower 42 = .ok (.iaload, 1) := by decide +kernel
theorem dX5_lower_43 : decode cX5_lower 43 = .ok (.istore_n 3, 1) := by decide +kernel
theorem dX5_lower_44 : decode cX5_lower 44 = .ok (.aload_n 0, 1) := by decide +kernel
theorem dX5_lower_45 : decode cX5_lower 45 = .ok (.getfield 26, 3) := by decide +kernel
theorem dX5_lower_48 : decode cX5_lower 48 = .ok (.iload_n 1, 1) := by decide +kernel
theorem dX5_lower_49 : decode cX5_lower 49 = .ok (.iload_n 2, 1) := by decide +kernel
theorem dX5_lower_50 : decode cX5_lower 50 = .ok (.iastore, 1) := by decide +kernel
theorem dX5_lower_51 : decode cX5_lower 51 = .ok (.iload_n 3, 1) := by decide +kernel
theorem dX5_lower_52 : decode cX5_lower 52 = .ok (.ireturn, 1) := by decide +kernel
theorem dX5_comesFrom_0 : decode cX5_comesFrom 0 = .ok (.iload_n 1, 1) := by decide +kernel
theorem dX5_comesFrom_1 : decode cX5_comesFrom 1 = .ok (.iload_n 2, 1) := by decide +kernel
theorem dX5_comesFrom_2 : decode cX5_comesFrom 2 = .ok (.if_icmp .eq 26, 3) := by decide +kernel
theorem dX5_comesFrom_5 : decode cX5_comesFrom 5 = .ok (.aload_n 0, 1) := by decide +kernel
theorem dX5_comesFrom_6 : decode cX5_comesFrom 6 = .ok (.getfield 35, 3) := by decide +kernel
theorem dX5_comesFrom_9 : decode cX5_comesFrom 9 = .ok (.iload_n 1, 1) := by decide +kernel
theorem dX5_comesFrom_10 : decode cX5_comesFrom 10 = .ok (.iaload, 1) := by decide +kernel
theorem dX5_comesFrom_11 : decode cX5_comesFrom 11 = .ok (.ifCond .lt 21, 3) := by decide +kernel
theorem dX5_comesFrom_14 : decode cX5_comesFrom 14 = .ok (.aload_n 0, 1) := by decide +kernel
theorem dX5_comesFrom_15 : decode cX5_comesFrom 15 = .ok (.aload_n 0, 1) := by decide +kernel
theorem dX5_comesFrom_16 : decode cX5_comesFrom 16 = .ok (.getfield 35, 3) := by decide +kernel
theorem dX5_comesFrom_19 : decode cX5_comesFrom 19 = .ok (.iload_n 1, 1) := by decide +kernel
theorem dX5_comesFrom_20 : decode cX5_comesFrom 20 = .ok (.iaload, 1) := by decide +kernel
theorem dX5_comesFrom_21 : decode cX5_comesFrom 21 = .ok (.iload_n 2, 1) := by decide +kernel
theorem dX5_comesFrom_22 : decode cX5_comesFrom 22 = .ok (.invokevirtual 112, 3) := by decide +kernel
theorem dX5_comesFrom_25 : decode cX5_comesFrom 25 = .ok (.ifCond .eq 7, 3) := by decide +kernel
theorem dX5_comesFrom_28 : decode cX5_comesFrom 28 = .ok (.iconst 1, 1) := by decide +kernel
theorem dX5_comesFrom_29 : decode cX5_comesFrom 29 = .ok (.goto 4, 3) := by decide +kernel
theorem dX5_comesFrom_32 : decode cX5_comesFrom 32 = .ok (.iconst 0, 1) := by decide +kernel
theorem dX5_comesFrom_33 : decode cX5_comesFrom 33 = .ok (.ireturn, 1) := by decide +kernel
theorem dX5_revoke_0 : decode cX5_revoke 0 = .ok (.aload_n 0, 1) := by decide +kernel
theorem dX5_revoke_1 : decode cX5_revoke 1 = .ok (.iload_n 1, 1) := by decide +kernel
theorem dX5_revoke_2 : decode cX5_revoke 2 = .ok (.invokevirtual 109, 3) := by decide +kernel
theorem dX5_revoke_5 : decode cX5_revoke 5 = .ok (.ifCond .ne 17, 3) := by decide +kernel
theorem dX5_revoke_8 : decode cX5_revoke 8 = .ok (.aload_n 0, 1) := by decide +kernel
theorem dX5_revoke_9 : decode cX5_revoke 9 = .ok (.aload_n 0, 1) := by decide +kernel
theorem dX5_revoke_10 : decode cX5_revoke 10 = .ok (.getfield 13, 3) := by decide +kernel
theorem dX5_revoke_13 : decode cX5_revoke 13 = .ok (.iload_n 1, 1) := by decide +kernel
theorem dX5_revoke_14 : decode cX5_revoke 14 = .ok (.baload, 1) := by decide +kernel
theorem dX5_revoke_15 : decode cX5_revoke 15 = .ok (.iconst 2, 1) := by decide +kernel
theorem dX5_revoke_16 : decode cX5_revoke 16 = .ok (.invokevirtual 86, 3) := by decide +kernel
theorem dX5_revoke_19 : decode cX5_revoke 19 = .ok (.ifCond .eq 5, 3) := by decide +kernel
theorem dX5_revoke_22 : decode cX5_revoke 22 = .ok (.iconst 0, 1) := by decide +kernel
theorem dX5_revoke_23 : decode cX5_revoke 23 = .ok (.ireturn, 1) := by decide +kernel
theorem dX5_revoke_24 : decode cX5_revoke 24 = .ok (.aload_n 0, 1) := by decide +kernel
theorem dX5_revoke_25 : decode cX5_revoke 25 = .ok (.getfield 13, 3) := by decide +kernel
theorem dX5_revoke_28 : decode cX5_revoke 28 = .ok (.iload_n 1, 1) := by decide +kernel
theorem dX5_revoke_29 : decode cX5_revoke 29 = .ok (.iconst 1, 1) := by decide +kernel
theorem dX5_revoke_30 : decode cX5_revoke 30 = .ok (.bastore, 1) := by decide +kernel
theorem dX5_revoke_31 : decode cX5_revoke 31 = .ok (.iconst 0, 1) := by decide +kernel
theorem dX5_revoke_32 : decode cX5_revoke 32 = .ok (.istore_n 2, 1) := by decide +kernel
theorem dX5_revoke_33 : decode cX5_revoke 33 = .ok (.iconst 0, 1) := by decide +kernel
theorem dX5_revoke_34 : decode cX5_revoke 34 = .ok (.istore_n 3, 1) := by decide +kernel
theorem dX5_revoke_35 : decode cX5_revoke 35 = .ok (.iload_n 3, 1) := by decide +kernel
theorem dX5_revoke_36 : decode cX5_revoke 36 = .ok (.aload_n 0, 1) := by decide +kernel
theorem dX5_revoke_37 : decode cX5_revoke 37 = .ok (.getfield 83, 3) := by decide +kernel
theorem dX5_revoke_40 : decode cX5_revoke 40 = .ok (.if_icmp .ge 26, 3) := by decide +kernel
theorem dX5_revoke_43 : decode cX5_revoke 43 = .ok (.iload_n 2, 1) := by decide +kernel
theorem dX5_revoke_44 : decode cX5_revoke 44 = .ok (.aload_n 0, 1) := by decide +kernel
theorem dX5_revoke_45 : decode cX5_revoke 45 = .ok (.iload_n 3, 1) := by decide +kernel
theorem dX5_revoke_46 : decode cX5_revoke 46 = .ok (.iload_n 1, 1) := by decide +kernel
theorem dX5_revoke_47 : decode cX5_revoke 47 = .ok (.invokevirtual 112, 3) := by decide +kernel
theorem dX5_revoke_50 : decode cX5_revoke 50 = .ok (.ifCond .eq 7, 3) := by decide +kernel
theorem dX5_revoke_53 : decode cX5_revoke 53 = .ok (.iconst 1, 1) := by decide +kernel
theorem dX5_revoke_54 : decode cX5_revoke 54 = .ok (.goto 4, 3) := by decide +kernel
theorem dX5_revoke_57 : decode cX5_revoke 57 = .ok (.iconst 0, 1) := by decide +kernel
theorem dX5_revoke_58 : decode cX5_revoke 58 = .ok (.iadd, 1) := by decide +kernel
theorem dX5_revoke_59 : decode cX5_revoke 59 = .ok (.istore_n 2, 1) := by decide +kernel
theorem dX5_revoke_60 : decode cX5_revoke 60 = .ok (.iinc 3 1, 3) := by decide +kernel
theorem dX5_revoke_63 : decode cX5_revoke 63 = .ok (.goto (-28), 3) := by decide +kernel
theorem dX5_revoke_66 : decode cX5_revoke 66 = .ok (.iload_n 2, 1) := by decide +kernel
theorem dX5_revoke_67 : decode cX5_revoke 67 = .ok (.ireturn, 1) := by decide +kernel
theorem dX5_source_0 : decode cX5_source 0 = .ok (.aload_n 0, 1) := by decide +kernel
theorem dX5_source_1 : decode cX5_source 1 = .ok (.iload_n 1, 1) := by decide +kernel
theorem dX5_source_2 : decode cX5_source 2 = .ok (.invokevirtual 109, 3) := by decide +kernel
theorem dX5_source_5 : decode cX5_source 5 = .ok (.ifCond .eq 7, 3) := by decide +kernel
theorem dX5_source_8 : decode cX5_source 8 = .ok (.iconst 0, 1) := by decide +kernel
theorem dX5_source_9 : decode cX5_source 9 = .ok (.goto 9, 3) := by decide +kernel
theorem dX5_source_12 : decode cX5_source 12 = .ok (.aload_n 0, 1) := by decide +kernel
theorem dX5_source_13 : decode cX5_source 13 = .ok (.getfield 35, 3) := by decide +kernel
theorem dX5_source_16 : decode cX5_source 16 = .ok (.iload_n 1, 1) := by decide +kernel
theorem dX5_source_17 : decode cX5_source 17 = .ok (.iaload, 1) := by decide +kernel
theorem dX5_source_18 : decode cX5_source 18 = .ok (.ireturn, 1) := by decide +kernel
theorem dX5_limit_0 : decode cX5_limit 0 = .ok (.aload_n 0, 1) := by decide +kernel
theorem dX5_limit_1 : decode cX5_limit 1 = .ok (.iload_n 1, 1) := by decide +kernel
theorem dX5_limit_2 : decode cX5_limit 2 = .ok (.invokevirtual 109, 3) := by decide +kernel
theorem dX5_limit_5 : decode cX5_limit 5 = .ok (.ifCond .eq 7, 3) := by decide +kernel
theorem dX5_limit_8 : decode cX5_limit 8 = .ok (.iconst 0, 1) := by decide +kernel
theorem dX5_limit_9 : decode cX5_limit 9 = .ok (.goto 9, 3) := by decide +kernel
theorem dX5_limit_12 : decode cX5_limit 12 = .ok (.aload_n 0, 1) := by decide +kernel
theorem dX5_limit_13 : decode cX5_limit 13 = .ok (.getfield 26, 3) := by decide +kernel
theorem dX5_limit_16 : decode cX5_limit 16 = .ok (.iload_n 1, 1) := by decide +kernel
theorem dX5_limit_17 : decode cX5_limit 17 = .ok (.iaload, 1) := by decide +kernel
theorem dX5_limit_18 : decode cX5_limit 18 = .ok (.ireturn, 1) := by decide +kernel
theorem dX5_faulty_0 : decode cX5_faulty 0 = .ok (.aload_n 0, 1) := by decide +kernel
theorem dX5_faulty_1 : decode cX5_faulty 1 = .ok (.getfield 35, 3) := by decide +kernel
theorem dX5_faulty_4 : decode cX5_faulty 4 = .ok (.iload_n 1, 1) := by decide +kernel
theorem dX5_faulty_5 : decode cX5_faulty 5 = .ok (.iaload, 1) := by decide +kernel
theorem dX5_faulty_6 : decode cX5_faulty 6 = .ok (.ifCond .lt 33, 3) := by decide +kernel
theorem dX5_faulty_9 : decode cX5_faulty 9 = .ok (.aload_n 0, 1) := by decide +kernel
theorem dX5_faulty_10 : decode cX5_faulty 10 = .ok (.aload_n 0, 1) := by decide +kernel
theorem dX5_faulty_11 : decode cX5_faulty 11 = .ok (.getfield 35, 3) := by decide +kernel
theorem dX5_faulty_14 : decode cX5_faulty 14 = .ok (.iload_n 1, 1) := by decide +kernel
theorem dX5_faulty_15 : decode cX5_faulty 15 = .ok (.iaload, 1) := by decide +kernel
theorem dX5_faulty_16 : decode cX5_faulty 16 = .ok (.iload_n 2, 1) := by decide +kernel
theorem dX5_faulty_17 : decode cX5_faulty 17 = .ok (.invokevirtual 115, 3) := by decide +kernel
theorem dX5_faulty_20 : decode cX5_faulty 20 = .ok (.istore_n 3, 1) := by decide +kernel
theorem dX5_faulty_21 : decode cX5_faulty 21 = .ok (.iload_n 3, 1) := by decide +kernel
theorem dX5_faulty_22 : decode cX5_faulty 22 = .ok (.bipush 45, 2) := by decide +kernel
theorem dX5_faulty_24 : decode cX5_faulty 24 = .ok (.if_icmp .eq 15, 3) := by decide +kernel
theorem dX5_faulty_27 : decode cX5_faulty 27 = .ok (.aload_n 0, 1) := by decide +kernel
theorem dX5_faulty_28 : decode cX5_faulty 28 = .ok (.dup, 1) := by decide +kernel
theorem dX5_faulty_29 : decode cX5_faulty 29 = .ok (.getfield 119, 3) := by decide +kernel
theorem dX5_faulty_32 : decode cX5_faulty 32 = .ok (.iconst 1, 1) := by decide +kernel
theorem dX5_faulty_33 : decode cX5_faulty 33 = .ok (.iadd, 1) := by decide +kernel
theorem dX5_faulty_34 : decode cX5_faulty 34 = .ok (.putfield 119, 3) := by decide +kernel
theorem dX5_faulty_37 : decode cX5_faulty 37 = .ok (.iload_n 3, 1) := by decide +kernel
theorem dX5_faulty_38 : decode cX5_faulty 38 = .ok (.ireturn, 1) := by decide +kernel
theorem dX5_faulty_39 : decode cX5_faulty 39 = .ok (.aload_n 0, 1) := by decide +kernel
theorem dX5_faulty_40 : decode cX5_faulty 40 = .ok (.iconst 0, 1) := by decide +kernel
theorem dX5_faulty_41 : decode cX5_faulty 41 = .ok (.putfield 119, 3) := by decide +kernel
theorem dX5_faulty_44 : decode cX5_faulty 44 = .ok (.aload_n 0, 1) := by decide +kernel
theorem dX5_faulty_45 : decode cX5_faulty 45 = .ok (.getfield 122, 3) := by decide +kernel
theorem dX5_faulty_48 : decode cX5_faulty 48 = .ok (.aload_n 0, 1) := by decide +kernel
theorem dX5_faulty_49 : decode cX5_faulty 49 = .ok (.getfield 29, 3) := by decide +kernel
theorem dX5_faulty_52 : decode cX5_faulty 52 = .ok (.iload_n 1, 1) := by decide +kernel
theorem dX5_faulty_53 : decode cX5_faulty 53 = .ok (.iaload, 1) := by decide +kernel
theorem dX5_faulty_54 : decode cX5_faulty 54 = .ok (.aload_n 0, 1) := by decide +kernel
theorem dX5_faulty_55 : decode cX5_faulty 55 = .ok (.getfield 32, 3) := by decide +kernel
theorem dX5_faulty_58 : decode cX5_faulty 58 = .ok (.iload_n 1, 1) := by decide +kernel
theorem dX5_faulty_59 : decode cX5_faulty 59 = .ok (.iaload, 1) := by decide +kernel
theorem dX5_faulty_60 : decode cX5_faulty 60 = .ok (.invokestatic 79, 3) := by decide +kernel
theorem dX5_faulty_63 : decode cX5_faulty 63 = .ok (.ifCond .ne 8, 3) := by decide +kernel
theorem dX5_faulty_66 : decode cX5_faulty 66 = .ok (.bipush 100, 2) := by decide +kernel
theorem dX5_faulty_68 : decode cX5_faulty 68 = .ok (.goto 34, 3) := by decide +kernel
theorem dX5_faulty_71 : decode cX5_faulty 71 = .ok (.aload_n 0, 1) := by decide +kernel
theorem dX5_faulty_72 : decode cX5_faulty 72 = .ok (.getfield 13, 3) := by decide +kernel
theorem dX5_faulty_75 : decode cX5_faulty 75 = .ok (.iload_n 1, 1) := by decide +kernel
theorem dX5_faulty_76 : decode cX5_faulty 76 = .ok (.baload, 1) := by decide +kernel
theorem dX5_faulty_77 : decode cX5_faulty 77 = .ok (.ifCond .eq 8, 3) := by decide +kernel
theorem dX5_faulty_80 : decode cX5_faulty 80 = .ok (.bipush 118, 2) := by decide +kernel
theorem dX5_faulty_82 : decode cX5_faulty 82 = .ok (.goto 20, 3) := by decide +kernel
theorem dX5_faulty_85 : decode cX5_faulty 85 = .ok (.iload_n 2, 1) := by decide +kernel
theorem dX5_faulty_86 : decode cX5_faulty 86 = .ok (.aload_n 0, 1) := by decide +kernel
theorem dX5_faulty_87 : decode cX5_faulty 87 = .ok (.getfield 26, 3) := by decide +kernel
theorem dX5_faulty_90 : decode cX5_faulty 90 = .ok (.iload_n 1, 1) := by decide +kernel
theorem dX5_faulty_91 : decode cX5_faulty 91 = .ok (.iaload, 1) := by decide +kernel
theorem dX5_faulty_92 : decode cX5_faulty 92 = .ok (.if_icmp .le 8, 3) := by decide +kernel
theorem dX5_faulty_95 : decode cX5_faulty 95 = .ok (.bipush 108, 2) := by decide +kernel
theorem dX5_faulty_97 : decode cX5_faulty 97 = .ok (.goto 5, 3) := by decide +kernel
theorem dX5_faulty_100 : decode cX5_faulty 100 = .ok (.bipush 45, 2) := by decide +kernel
theorem dX5_faulty_102 : decode cX5_faulty 102 = .ok (.ireturn, 1) := by decide +kernel
theorem dX5_isNoSum_0 : decode cX5_isNoSum 0 = .ok (.aload_n 0, 1) := by decide +kernel
theorem dX5_isNoSum_1 : decode cX5_isNoSum 1 = .ok (.iload_n 1, 1) := by decide +kernel
theorem dX5_isNoSum_2 : decode cX5_isNoSum 2 = .ok (.iconst 1, 1) := by decide +kernel
theorem dX5_isNoSum_3 : decode cX5_isNoSum 3 = .ok (.ldc 101, 2) := by decide +kernel
theorem dX5_isNoSum_5 : decode cX5_isNoSum 5 = .ok (.invokestatic 79, 3) := by decide +kernel
theorem dX5_isNoSum_8 : decode cX5_isNoSum 8 = .ok (.ifCond .ne 7, 3) := by decide +kernel
theorem dX5_isNoSum_11 : decode cX5_isNoSum 11 = .ok (.iconst 1, 1) := by decide +kernel
theorem dX5_isNoSum_12 : decode cX5_isNoSum 12 = .ok (.goto 4, 3) := by decide +kernel
theorem dX5_isNoSum_15 : decode cX5_isNoSum 15 = .ok (.iconst 0, 1) := by decide +kernel
theorem dX5_isNoSum_16 : decode cX5_isNoSum 16 = .ok (.iload_n 2, 1) := by decide +kernel
theorem dX5_isNoSum_17 : decode cX5_isNoSum 17 = .ok (.invokevirtual 86, 3) := by decide +kernel
theorem dX5_isNoSum_20 : decode cX5_isNoSum 20 = .ok (.ireturn, 1) := by decide +kernel
theorem dX5_fault_0 : decode cX5_fault 0 = .ok (.aload_n 0, 1) := by decide +kernel
theorem dX5_fault_1 : decode cX5_fault 1 = .ok (.iload_n 1, 1) := by decide +kernel
theorem dX5_fault_2 : decode cX5_fault 2 = .ok (.invokevirtual 109, 3) := by decide +kernel
theorem dX5_fault_5 : decode cX5_fault 5 = .ok (.ifCond .ne 12, 3) := by decide +kernel
theorem dX5_fault_8 : decode cX5_fault 8 = .ok (.aload_n 0, 1) := by decide +kernel
theorem dX5_fault_9 : decode cX5_fault 9 = .ok (.iload_n 2, 1) := by decide +kernel
theorem dX5_fault_10 : decode cX5_fault 10 = .ok (.iconst 2, 1) := by decide +kernel
theorem dX5_fault_11 : decode cX5_fault 11 = .ok (.invokevirtual 125, 3) := by decide +kernel
theorem dX5_fault_14 : decode cX5_fault 14 = .ok (.ifCond .eq 8, 3) := by decide +kernel
theorem dX5_fault_17 : decode cX5_fault 17 = .ok (.bipush 45, 2) := by decide +kernel
theorem dX5_fault_19 : decode cX5_fault 19 = .ok (.goto 9, 3) := by decide +kernel
theorem dX5_fault_22 : decode cX5_fault 22 = .ok (.aload_n 0, 1) := by decide +kernel
theorem dX5_fault_23 : decode cX5_fault 23 = .ok (.iload_n 1, 1) := by decide +kernel
theorem dX5_fault_24 : decode cX5_fault 24 = .ok (.iload_n 2, 1) := by decide +kernel
theorem dX5_fault_25 : decode cX5_fault 25 = .ok (.invokevirtual 115, 3) := by decide +kernel
theorem dX5_fault_28 : decode cX5_fault 28 = .ok (.ireturn, 1) := by decide +kernel
theorem dX5_faultDepth_0 : decode cX5_faultDepth 0 = .ok (.aload_n 0, 1) := by decide +kernel
theorem dX5_faultDepth_1 : decode cX5_faultDepth 1 = .ok (.iload_n 1, 1) := by decide +kernel
theorem dX5_faultDepth_2 : decode cX5_faultDepth 2 = .ok (.invokevirtual 109, 3) := by decide +kernel
theorem dX5_faultDepth_5 : decode cX5_faultDepth 5 = .ok (.ifCond .ne 12, 3) := by decide +kernel
theorem dX5_faultDepth_8 : decode cX5_faultDepth 8 = .ok (.aload_n 0, 1) := by decide +kernel
theorem dX5_faultDepth_9 : decode cX5_faultDepth 9 = .ok (.iload_n 2, 1) := by decide +kernel
theorem dX5_faultDepth_10 : decode cX5_faultDepth 10 = .ok (.iconst 2, 1) := by decide +kernel
theorem dX5_faultDepth_11 : decode cX5_faultDepth 11 = .ok (.invokevirtual 125, 3) := by decide +kernel
theorem dX5_faultDepth_14 : decode cX5_faultDepth 14 = .ok (.ifCond .eq 5, 3) := by decide +kernel
theorem dX5_faultDepth_17 : decode cX5_faultDepth 17 = .ok (.iconst 0, 1) := by decide +kernel
theorem dX5_faultDepth_18 : decode cX5_faultDepth 18 = .ok (.ireturn, 1) := by decide +kernel
theorem dX5_faultDepth_19 : decode cX5_faultDepth 19 = .ok (.aload_n 0, 1) := by decide +kernel
theorem dX5_faultDepth_20 : decode cX5_faultDepth 20 = .ok (.aload_n 0, 1) := by decide +kernel
theorem dX5_faultDepth_21 : decode cX5_faultDepth 21 = .ok (.iload_n 1, 1) := by decide +kernel
theorem dX5_faultDepth_22 : decode cX5_faultDepth 22 = .ok (.iload_n 2, 1) := by decide +kernel
theorem dX5_faultDepth_23 : decode cX5_faultDepth 23 = .ok (.invokevirtual 115, 3) := by decide +kernel
theorem dX5_faultDepth_26 : decode cX5_faultDepth 26 = .ok (.bipush 45, 2) := by decide +kernel
theorem dX5_faultDepth_28 : decode cX5_faultDepth 28 = .ok (.if_icmp .ne 7, 3) := by decide +kernel
theorem dX5_faultDepth_31 : decode cX5_faultDepth 31 = .ok (.iconst 1, 1) := by decide +kernel
theorem dX5_faultDepth_32 : decode cX5_faultDepth 32 = .ok (.goto 4, 3) := by decide +kernel
theorem dX5_faultDepth_35 : decode cX5_faultDepth 35 = .ok (.iconst 0, 1) := by decide +kernel
theorem dX5_faultDepth_36 : decode cX5_faultDepth 36 = .ok (.iconst 3, 1) := by decide +kernel
theorem dX5_faultDepth_37 : decode cX5_faultDepth 37 = .ok (.invokevirtual 86, 3) := by decide +kernel
theorem dX5_faultDepth_40 : decode cX5_faultDepth 40 = .ok (.ifCond .eq 7, 3) := by decide +kernel
theorem dX5_faultDepth_43 : decode cX5_faultDepth 43 = .ok (.iconst 0, 1) := by decide +kernel
theorem dX5_faultDepth_44 : decode cX5_faultDepth 44 = .ok (.goto 7, 3) := by decide +kernel
theorem dX5_faultDepth_47 : decode cX5_faultDepth 47 = .ok (.aload_n 0, 1) := by decide +kernel
theorem dX5_faultDepth_48 : decode cX5_faultDepth 48 = .ok (.getfield 119, 3) := by decide +kernel
theorem dX5_faultDepth_51 : decode cX5_faultDepth 51 = .ok (.ireturn, 1) := by decide +kernel
theorem dX5_reach_0 : decode cX5_reach 0 = .ok (.aload_n 0, 1) := by decide +kernel
theorem dX5_reach_1 : decode cX5_reach 1 = .ok (.iload_n 1, 1) := by decide +kernel
theorem dX5_reach_2 : decode cX5_reach 2 = .ok (.invokevirtual 109, 3) := by decide +kernel
theorem dX5_reach_5 : decode cX5_reach 5 = .ok (.ifCond .eq 5, 3) := by decide +kernel
theorem dX5_reach_8 : decode cX5_reach 8 = .ok (.iconst 0, 1) := by decide +kernel
theorem dX5_reach_9 : decode cX5_reach 9 = .ok (.ireturn, 1) := by decide +kernel
theorem dX5_reach_10 : decode cX5_reach 10 = .ok (.ldc 101, 2) := by decide +kernel
theorem dX5_reach_12 : decode cX5_reach 12 = .ok (.istore_n 2, 1) := by decide +kernel
theorem dX5_reach_13 : decode cX5_reach 13 = .ok (.iload_n 1, 1) := by decide +kernel
theorem dX5_reach_14 : decode cX5_reach 14 = .ok (.istore_n 3, 1) := by decide +kernel
theorem dX5_reach_15 : decode cX5_reach 15 = .ok (.iload_n 3, 1) := by decide +kernel
theorem dX5_reach_16 : decode cX5_reach 16 = .ok (.ifCond .lt 59, 3) := by decide +kernel
theorem dX5_reach_19 : decode cX5_reach 19 = .ok (.iload_n 2, 1) := by decide +kernel
theorem dX5_reach_20 : decode cX5_reach 20 = .ok (.aload_n 0, 1) := by decide +kernel
theorem dX5_reach_21 : decode cX5_reach 21 = .ok (.getfield 122, 3) := by decide +kernel
theorem dX5_reach_24 : decode cX5_reach 24 = .ok (.aload_n 0, 1) := by decide +kernel
theorem dX5_reach_25 : decode cX5_reach 25 = .ok (.getfield 29, 3) := by decide +kernel
theorem dX5_reach_28 : decode cX5_reach 28 = .ok (.iload_n 3, 1) := by decide +kernel
theorem dX5_reach_29 : decode cX5_reach 29 = .ok (.iaload, 1) := by decide +kernel
theorem dX5_reach_30 : decode cX5_reach 30 = .ok (.aload_n 0, 1) := by decide +kernel
theorem dX5_reach_31 : decode cX5_reach 31 = .ok (.getfield 32, 3) := by decide +kernel
theorem dX5_reach_34 : decode cX5_reach 34 = .ok (.iload_n 3, 1) := by decide +kernel
theorem dX5_reach_35 : decode cX5_reach 35 = .ok (.iaload, 1) := by decide +kernel
theorem dX5_reach_36 : decode cX5_reach 36 = .ok (.invokestatic 79, 3) := by decide +kernel
theorem dX5_reach_39 : decode cX5_reach 39 = .ok (.ifCond .eq 21, 3) := by decide +kernel
theorem dX5_reach_42 : decode cX5_reach 42 = .ok (.aload_n 0, 1) := by decide +kernel
theorem dX5_reach_43 : decode cX5_reach 43 = .ok (.getfield 13, 3) := by decide +kernel
theorem dX5_reach_46 : decode cX5_reach 46 = .ok (.iload_n 3, 1) := by decide +kernel
theorem dX5_reach_47 : decode cX5_reach 47 = .ok (.baload, 1) := by decide +kernel
theorem dX5_reach_48 : decode cX5_reach 48 = .ok (.ifCond .ne 12, 3) := by decide +kernel
theorem dX5_reach_51 : decode cX5_reach 51 = .ok (.aload_n 0, 1) := by decide +kernel
theorem dX5_reach_52 : decode cX5_reach 52 = .ok (.getfield 26, 3) := by decide +kernel
theorem dX5_reach_55 : decode cX5_reach 55 = .ok (.iload_n 3, 1) := by decide +kernel
theorem dX5_reach_56 : decode cX5_reach 56 = .ok (.iaload, 1) := by decide +kernel
theorem dX5_reach_57 : decode cX5_reach 57 = .ok (.goto 4, 3) := by decide +kernel
theorem dX5_reach_60 : decode cX5_reach 60 = .ok (.iconst 0, 1) := by decide +kernel
theorem dX5_reach_61 : decode cX5_reach 61 = .ok (.invokestatic 128, 3) := by decide +kernel
theorem dX5_reach_64 : decode cX5_reach 64 = .ok (.istore_n 2, 1) := by decide +kernel
theorem dX5_reach_65 : decode cX5_reach 65 = .ok (.aload_n 0, 1) := by decide +kernel
theorem dX5_reach_66 : decode cX5_reach 66 = .ok (.getfield 35, 3) := by decide +kernel
theorem dX5_reach_69 : decode cX5_reach 69 = .ok (.iload_n 3, 1) := by decide +kernel
theorem dX5_reach_70 : decode cX5_reach 70 = .ok (.iaload, 1) := by decide +kernel
theorem dX5_reach_71 : decode cX5_reach 71 = .ok (.istore_n 3, 1) := by decide +kernel
theorem dX5_reach_72 : decode cX5_reach 72 = .ok (.goto (-57), 3) := by decide +kernel
theorem dX5_reach_75 : decode cX5_reach 75 = .ok (.iload_n 2, 1) := by decide +kernel
theorem dX5_reach_76 : decode cX5_reach 76 = .ok (.ireturn, 1) := by decide +kernel
theorem dX5_has_0 : decode cX5_has 0 = .ok (.iconst 0, 1) := by decide +kernel
theorem dX5_has_1 : decode cX5_has 1 = .ok (.istore 5, 2) := by decide +kernel
theorem dX5_has_3 : decode cX5_has 3 = .ok (.iconst 0, 1) := by decide +kernel
theorem dX5_has_4 : decode cX5_has 4 = .ok (.istore 6, 2) := by decide +kernel
theorem dX5_has_6 : decode cX5_has 6 = .ok (.iload 6, 2) := by decide +kernel
theorem dX5_has_8 : decode cX5_has 8 = .ok (.aload_n 0, 1) := by decide +kernel
theorem dX5_has_9 : decode cX5_has 9 = .ok (.getfield 83, 3) := by decide +kernel
theorem dX5_has_12 : decode cX5_has 12 = .ok (.if_icmp .ge 69, 3) := by decide +kernel
theorem dX5_has_15 : decode cX5_has 15 = .ok (.iload 5, 2) := by decide +kernel
theorem dX5_has_17 : decode cX5_has 17 = .ok (.aload_n 0, 1) := by decide +kernel
theorem dX5_has_18 : decode cX5_has 18 = .ok (.getfield 23, 3) := by decide +kernel
theorem dX5_has_21 : decode cX5_has 21 = .ok (.iload 6, 2) := by decide +kernel
theorem dX5_has_23 : decode cX5_has 23 = .ok (.iaload, 1) := by decide +kernel
theorem dX5_has_24 : decode cX5_has 24 = .ok (.iload_n 2, 1) := by decide +kernel
theorem dX5_has_25 : decode cX5_has 25 = .ok (.if_icmp .ne 46, 3) := by decide +kernel
theorem dX5_has_28 : decode cX5_has 28 = .ok (.aload_n 0, 1) := by decide +kernel
theorem dX5_has_29 : decode cX5_has 29 = .ok (.getfield 38, 3) := by decide +kernel
theorem dX5_has_32 : decode cX5_has 32 = .ok (.iload 6, 2) := by decide +kernel
theorem dX5_has_34 : decode cX5_has 34 = .ok (.caload, 1) := by decide +kernel
theorem dX5_has_35 : decode cX5_has 35 = .ok (.iload_n 3, 1) := by decide +kernel
theorem dX5_has_36 : decode cX5_has 36 = .ok (.if_icmp .ne 35, 3) := by decide +kernel
theorem dX5_has_39 : decode cX5_has 39 = .ok (.aload_n 0, 1) := by decide +kernel
theorem dX5_has_40 : decode cX5_has 40 = .ok (.iload_n 1, 1) := by decide +kernel
theorem dX5_has_41 : decode cX5_has 41 = .ok (.aload_n 0, 1) := by decide +kernel
theorem dX5_has_42 : decode cX5_has 42 = .ok (.getfield 20, 3) := by decide +kernel
theorem dX5_has_45 : decode cX5_has 45 = .ok (.iload 6, 2) := by decide +kernel
theorem dX5_has_47 : decode cX5_has 47 = .ok (.iaload, 1) := by decide +kernel
theorem dX5_has_48 : decode cX5_has 48 = .ok (.invokevirtual 97, 3) := by decide +kernel
theorem dX5_has_51 : decode cX5_has 51 = .ok (.ifCond .eq 20, 3) := by decide +kernel
theorem dX5_has_54 : decode cX5_has 54 = .ok (.aload_n 0, 1) := by decide +kernel
theorem dX5_has_55 : decode cX5_has 55 = .ok (.iload 6, 2) := by decide +kernel
theorem dX5_has_57 : decode cX5_has 57 = .ok (.iload 4, 2) := by decide +kernel
theorem dX5_has_59 : decode cX5_has 59 = .ok (.invokevirtual 115, 3) := by decide +kernel
theorem dX5_has_62 : decode cX5_has 62 = .ok (.bipush 45, 2) := by decide +kernel
theorem dX5_has_64 : decode cX5_has 64 = .ok (.if_icmp .ne 7, 3) := by decide +kernel
theorem dX5_has_67 : decode cX5_has 67 = .ok (.iconst 1, 1) := by decide +kernel
theorem dX5_has_68 : decode cX5_has 68 = .ok (.goto 4, 3) := by decide +kernel
theorem dX5_has_71 : decode cX5_has 71 = .ok (.iconst 0, 1) := by decide +kernel
theorem dX5_has_72 : decode cX5_has 72 = .ok (.ior, 1) := by decide +kernel
theorem dX5_has_73 : decode cX5_has 73 = .ok (.istore 5, 2) := by decide +kernel
theorem dX5_has_75 : decode cX5_has 75 = .ok (.iinc 6 1, 3) := by decide +kernel
theorem dX5_has_78 : decode cX5_has 78 = .ok (.goto (-72), 3) := by decide +kernel
theorem dX5_has_81 : decode cX5_has 81 = .ok (.iload 5, 2) := by decide +kernel
theorem dX5_has_83 : decode cX5_has 83 = .ok (.ireturn, 1) := by decide +kernel
theorem dX5_canTogether_0 : decode cX5_canTogether 0 = .ok (.aload_n 0, 1) := by decide +kernel
theorem dX5_canTogether_1 : decode cX5_canTogether 1 = .ok (.iload_n 1, 1) := by decide +kernel
theorem dX5_canTogether_2 : decode cX5_canTogether 2 = .ok (.iload_n 3, 1) := by decide +kernel
theorem dX5_canTogether_3 : decode cX5_canTogether 3 = .ok (.bipush 115, 2) := by decide +kernel
theorem dX5_canTogether_5 : decode cX5_canTogether 5 = .ok (.iload 4, 2) := by decide +kernel
theorem dX5_canTogether_7 : decode cX5_canTogether 7 = .ok (.invokevirtual 134, 3) := by decide +kernel
theorem dX5_canTogether_10 : decode cX5_canTogether 10 = .ok (.ifCond .ne 16, 3) := by decide +kernel
theorem dX5_canTogether_13 : decode cX5_canTogether 13 = .ok (.aload_n 0, 1) := by decide +kernel
theorem dX5_canTogether_14 : decode cX5_canTogether 14 = .ok (.iload_n 2, 1) := by decide +kernel
theorem dX5_canTogether_15 : decode cX5_canTogether 15 = .ok (.iload_n 3, 1) := by decide +kernel
theorem dX5_canTogether_16 : decode cX5_canTogether 16 = .ok (.bipush 115, 2) := by decide +kernel
theorem dX5_canTogether_18 : decode cX5_canTogether 18 = .ok (.iload 4, 2) := by decide +kernel
theorem dX5_canTogether_20 : decode cX5_canTogether 20 = .ok (.invokevirtual 134, 3) := by decide +kernel
theorem dX5_canTogether_23 : decode cX5_canTogether 23 = .ok (.ifCond .eq 7, 3) := by decide +kernel
theorem dX5_canTogether_26 : decode cX5_canTogether 26 = .ok (.iconst 1, 1) := by decide +kernel
theorem dX5_canTogether_27 : decode cX5_canTogether 27 = .ok (.goto 4, 3) := by decide +kernel
theorem dX5_canTogether_30 : decode cX5_canTogether 30 = .ok (.iconst 0, 1) := by decide +kernel
theorem dX5_canTogether_31 : decode cX5_canTogether 31 = .ok (.istore 5, 2) := by decide +kernel
theorem dX5_canTogether_33 : decode cX5_canTogether 33 = .ok (.iload 5, 2) := by decide +kernel
theorem dX5_canTogether_35 : decode cX5_canTogether 35 = .ok (.ifCond .ne 55, 3) := by decide +kernel
theorem dX5_canTogether_38 : decode cX5_canTogether 38 = .ok (.aload_n 0, 1) := by decide +kernel
theorem dX5_canTogether_39 : decode cX5_canTogether 39 = .ok (.iload_n 1, 1) := by decide +kernel
theorem dX5_canTogether_40 : decode cX5_canTogether 40 = .ok (.iload_n 3, 1) := by decide +kernel
theorem dX5_canTogether_41 : decode cX5_canTogether 41 = .ok (.bipush 97, 2) := by decide +kernel
theorem dX5_canTogether_43 : decode cX5_canTogether 43 = .ok (.iload 4, 2) := by decide +kernel
theorem dX5_canTogether_45 : decode cX5_canTogether 45 = .ok (.invokevirtual 134, 3) := by decide +kernel
theorem dX5_canTogether_48 : decode cX5_canTogether 48 = .ok (.ifCond .eq 16, 3) := by decide +kernel
theorem dX5_canTogether_51 : decode cX5_canTogether 51 = .ok (.aload_n 0, 1) := by decide +kernel
theorem dX5_canTogether_52 : decode cX5_canTogether 52 = .ok (.iload_n 2, 1) := by decide +kernel
theorem dX5_canTogether_53 : decode cX5_canTogether 53 = .ok (.iload_n 3, 1) := by decide +kernel
theorem dX5_canTogether_54 : decode cX5_canTogether 54 = .ok (.bipush 98, 2) := by decide +kernel
theorem dX5_canTogether_56 : decode cX5_canTogether 56 = .ok (.iload 4, 2) := by decide +kernel
theorem dX5_canTogether_58 : decode cX5_canTogether 58 = .ok (.invokevirtual 134, 3) := by decide +kernel
theorem dX5_canTogether_61 : decode cX5_canTogether 61 = .ok (.ifCond .ne 29, 3) := by decide +kernel
theorem dX5_canTogether_64 : decode cX5_canTogether 64 = .ok (.aload_n 0, 1) := by decide +kernel
theorem dX5_canTogether_65 : decode cX5_canTogether 65 = .ok (.iload_n 1, 1) := by decide +kernel
theorem dX5_canTogether_66 : decode cX5_canTogether 66 = .ok (.iload_n 3, 1) := by decide +kernel
theorem dX5_canTogether_67 : decode cX5_canTogether 67 = .ok (.bipush 98, 2) := by decide +kernel
theorem dX5_canTogether_69 : decode cX5_canTogether 69 = .ok (.iload 4, 2) := by decide +kernel
theorem dX5_canTogether_71 : decode cX5_canTogether 71 = .ok (.invokevirtual 134, 3) := by decide +kernel
theorem dX5_canTogether_74 : decode cX5_canTogether 74 = .ok (.ifCond .eq 20, 3) := by decide +kernel
theorem dX5_canTogether_77 : decode cX5_canTogether 77 = .ok (.aload_n 0, 1) := by decide +kernel
theorem dX5_canTogether_78 : decode cX5_canTogether 78 = .ok (.iload_n 2, 1) := by decide +kernel
theorem dX5_canTogether_79 : decode cX5_canTogether 79 = .ok (.iload_n 3, 1) := by decide +kernel
theorem dX5_canTogether_80 : decode cX5_canTogether 80 = .ok (.bipush 97, 2) := by decide +kernel
theorem dX5_canTogether_82 : decode cX5_canTogether 82 = .ok (.iload 4, 2) := by decide +kernel
theorem dX5_canTogether_84 : decode cX5_canTogether 84 = .ok (.invokevirtual 134, 3) := by decide +kernel
theorem dX5_canTogether_87 : decode cX5_canTogether 87 = .ok (.ifCond .eq 7, 3) := by decide +kernel
theorem dX5_canTogether_90 : decode cX5_canTogether 90 = .ok (.iconst 1, 1) := by decide +kernel
theorem dX5_canTogether_91 : decode cX5_canTogether 91 = .ok (.goto 4, 3) := by decide +kernel
theorem dX5_canTogether_94 : decode cX5_canTogether 94 = .ok (.iconst 0, 1) := by decide +kernel
theorem dX5_canTogether_95 : decode cX5_canTogether 95 = .ok (.ireturn, 1) := by decide +kernel
theorem dX5_isNoAsk_0 : decode cX5_isNoAsk 0 = .ok (.aload_n 0, 1) := by decide +kernel
theorem dX5_isNoAsk_1 : decode cX5_isNoAsk 1 = .ok (.iload_n 1, 1) := by decide +kernel
theorem dX5_isNoAsk_2 : decode cX5_isNoAsk 2 = .ok (.iconst 0, 1) := by decide +kernel
theorem dX5_isNoAsk_3 : decode cX5_isNoAsk 3 = .ok (.iconst 3, 1) := by decide +kernel
theorem dX5_isNoAsk_4 : decode cX5_isNoAsk 4 = .ok (.invokestatic 79, 3) := by decide +kernel
theorem dX5_isNoAsk_7 : decode cX5_isNoAsk 7 = .ok (.ifCond .eq 13, 3) := by decide +kernel
theorem dX5_isNoAsk_10 : decode cX5_isNoAsk 10 = .ok (.iload_n 2, 1) := by decide +kernel
theorem dX5_isNoAsk_11 : decode cX5_isNoAsk 11 = .ok (.iconst 1, 1) := by decide +kernel
theorem dX5_isNoAsk_12 : decode cX5_isNoAsk 12 = .ok (.ldc 101, 2) := by decide +kernel
theorem dX5_isNoAsk_14 : decode cX5_isNoAsk 14 = .ok (.invokestatic 79, 3) := by decide +kernel
theorem dX5_isNoAsk_17 : decode cX5_isNoAsk 17 = .ok (.ifCond .ne 7, 3) := by decide +kernel
theorem dX5_isNoAsk_20 : decode cX5_isNoAsk 20 = .ok (.iconst 1, 1) := by decide +kernel
theorem dX5_isNoAsk_21 : decode cX5_isNoAsk 21 = .ok (.goto 4, 3) := by decide +kernel
theorem dX5_isNoAsk_24 : decode cX5_isNoAsk 24 = .ok (.iconst 0, 1) := by decide +kernel
theorem dX5_isNoAsk_25 : decode cX5_isNoAsk 25 = .ok (.iload_n 3, 1) := by decide +kernel
theorem dX5_isNoAsk_26 : decode cX5_isNoAsk 26 = .ok (.invokevirtual 86, 3) := by decide +kernel
theorem dX5_isNoAsk_29 : decode cX5_isNoAsk 29 = .ok (.ireturn, 1) := by decide +kernel
theorem dX5_canSign_0 : decode cX5_canSign 0 = .ok (.aload_n 0, 1) := by decide +kernel
theorem dX5_canSign_1 : decode cX5_canSign 1 = .ok (.aload_n 0, 1) := by decide +kernel
theorem dX5_canSign_2 : decode cX5_canSign 2 = .ok (.iload_n 1, 1) := by decide +kernel
theorem dX5_canSign_3 : decode cX5_canSign 3 = .ok (.invokevirtual 93, 3) := by decide +kernel
theorem dX5_canSign_6 : decode cX5_canSign 6 = .ok (.iconst 1, 1) := by decide +kernel
theorem dX5_canSign_7 : decode cX5_canSign 7 = .ok (.invokevirtual 86, 3) := by decide +kernel
theorem dX5_canSign_10 : decode cX5_canSign 10 = .ok (.ifCond .ne 29, 3) := by decide +kernel
theorem dX5_canSign_13 : decode cX5_canSign 13 = .ok (.aload_n 0, 1) := by decide +kernel
theorem dX5_canSign_14 : decode cX5_canSign 14 = .ok (.iload_n 2, 1) := by decide +kernel
theorem dX5_canSign_15 : decode cX5_canSign 15 = .ok (.iload_n 3, 1) := by decide +kernel
theorem dX5_canSign_16 : decode cX5_canSign 16 = .ok (.iconst 2, 1) := by decide +kernel
theorem dX5_canSign_17 : decode cX5_canSign 17 = .ok (.invokevirtual 138, 3) := by decide +kernel
theorem dX5_canSign_20 : decode cX5_canSign 20 = .ok (.ifCond .ne 19, 3) := by decide +kernel
theorem dX5_canSign_23 : decode cX5_canSign 23 = .ok (.aload_n 0, 1) := by decide +kernel
theorem dX5_canSign_24 : decode cX5_canSign 24 = .ok (.iload_n 1, 1) := by decide +kernel
theorem dX5_canSign_25 : decode cX5_canSign 25 = .ok (.iload_n 2, 1) := by decide +kernel
theorem dX5_canSign_26 : decode cX5_canSign 26 = .ok (.bipush 115, 2) := by decide +kernel
theorem dX5_canSign_28 : decode cX5_canSign 28 = .ok (.iload_n 3, 1) := by decide +kernel
theorem dX5_canSign_29 : decode cX5_canSign 29 = .ok (.invokevirtual 134, 3) := by decide +kernel
theorem dX5_canSign_32 : decode cX5_canSign 32 = .ok (.ifCond .eq 7, 3) := by decide +kernel
theorem dX5_canSign_35 : decode cX5_canSign 35 = .ok (.iconst 1, 1) := by decide +kernel
theorem dX5_canSign_36 : decode cX5_canSign 36 = .ok (.goto 4, 3) := by decide +kernel
theorem dX5_canSign_39 : decode cX5_canSign 39 = .ok (.iconst 0, 1) := by decide +kernel
theorem dX5_canSign_40 : decode cX5_canSign 40 = .ok (.ireturn, 1) := by decide +kernel
theorem dX5_canSignTogether_0 : decode cX5_canSignTogether 0 = .ok (.aload_n 0, 1) := by decide +kernel
theorem dX5_canSignTogether_1 : decode cX5_canSignTogether 1 = .ok (.aload_n 0, 1) := by decide +kernel
theorem dX5_canSignTogether_2 : decode cX5_canSignTogether 2 = .ok (.iload_n 1, 1) := by decide +kernel
theorem dX5_canSignTogether_3 : decode cX5_canSignTogether 3 = .ok (.invokevirtual 93, 3) := by decide +kernel
theorem dX5_canSignTogether_6 : decode cX5_canSignTogether 6 = .ok (.ifCond .ne 11, 3) := by decide +kernel
theorem dX5_canSignTogether_9 : decode cX5_canSignTogether 9 = .ok (.aload_n 0, 1) := by decide +kernel
theorem dX5_canSignTogether_10 : decode cX5_canSignTogether 10 = .ok (.iload_n 2, 1) := by decide +kernel
theorem dX5_canSignTogether_11 : decode cX5_canSignTogether 11 = .ok (.invokevirtual 93, 3) := by decide +kernel
theorem dX5_canSignTogether_14 : decode cX5_canSignTogether 14 = .ok (.ifCond .eq 7, 3) := by decide +kernel
theorem dX5_canSignTogether_17 : decode cX5_canSignTogether 17 = .ok (.iconst 1, 1) := by decide +kernel
theorem dX5_canSignTogether_18 : decode cX5_canSignTogether 18 = .ok (.goto 4, 3) := by decide +kernel
theorem dX5_canSignTogether_21 : decode cX5_canSignTogether 21 = .ok (.iconst 0, 1) := by decide +kernel
theorem dX5_canSignTogether_22 : decode cX5_canSignTogether 22 = .ok (.iconst 1, 1) := by decide +kernel
theorem dX5_canSignTogether_23 : decode cX5_canSignTogether 23 = .ok (.invokevirtual 86, 3) := by decide +kernel
theorem dX5_canSignTogether_26 : decode cX5_canSignTogether 26 = .ok (.ifCond .ne 48, 3) := by decide +kernel
theorem dX5_canSignTogether_29 : decode cX5_canSignTogether 29 = .ok (.aload_n 0, 1) := by decide +kernel
theorem dX5_canSignTogether_30 : decode cX5_canSignTogether 30 = .ok (.iload_n 3, 1) := by decide +kernel
theorem dX5_canSignTogether_31 : decode cX5_canSignTogether 31 = .ok (.iload 4, 2) := by decide +kernel
theorem dX5_canSignTogether_33 : decode cX5_canSignTogether 33 = .ok (.iconst 2, 1) := by decide +kernel
theorem dX5_canSignTogether_34 : decode cX5_canSignTogether 34 = .ok (.invokevirtual 138, 3) := by decide +kernel
theorem dX5_canSignTogether_37 : decode cX5_canSignTogether 37 = .ok (.ifCond .ne 37, 3) := by decide +kernel
theorem dX5_canSignTogether_40 : decode cX5_canSignTogether 40 = .ok (.aload_n 0, 1) := by decide +kernel
theorem dX5_canSignTogether_41 : decode cX5_canSignTogether 41 = .ok (.iload_n 1, 1) := by decide +kernel
theorem dX5_canSignTogether_42 : decode cX5_canSignTogether 42 = .ok (.iload_n 2, 1) := by decide +kernel
theorem dX5_canSignTogether_43 : decode cX5_canSignTogether 43 = .ok (.if_icmp .ne 7, 3) := by decide +kernel
theorem dX5_canSignTogether_46 : decode cX5_canSignTogether 46 = .ok (.iconst 1, 1) := by decide +kernel
theorem dX5_canSignTogether_47 : decode cX5_canSignTogether 47 = .ok (.goto 4, 3) := by decide +kernel
theorem dX5_canSignTogether_50 : decode cX5_canSignTogether 50 = .ok (.iconst 0, 1) := by decide +kernel
theorem dX5_canSignTogether_51 : decode cX5_canSignTogether 51 = .ok (.iconst 3, 1) := by decide +kernel
theorem dX5_canSignTogether_52 : decode cX5_canSignTogether 52 = .ok (.invokevirtual 86, 3) := by decide +kernel
theorem dX5_canSignTogether_55 : decode cX5_canSignTogether 55 = .ok (.ifCond .ne 19, 3) := by decide +kernel
theorem dX5_canSignTogether_58 : decode cX5_canSignTogether 58 = .ok (.aload_n 0, 1) := by decide +kernel
theorem dX5_canSignTogether_59 : decode cX5_canSignTogether 59 = .ok (.iload_n 1, 1) := by decide +kernel
theorem dX5_canSignTogether_60 : decode cX5_canSignTogether 60 = .ok (.iload_n 2, 1) := by decide +kernel
theorem dX5_canSignTogether_61 : decode cX5_canSignTogether 61 = .ok (.iload_n 3, 1) := by decide +kernel
theorem dX5_canSignTogether_62 : decode cX5_canSignTogether 62 = .ok (.iload 4, 2) := by decide +kernel
theorem dX5_canSignTogether_64 : decode cX5_canSignTogether 64 = .ok (.invokevirtual 141, 3) := by decide +kernel
theorem dX5_canSignTogether_67 : decode cX5_canSignTogether 67 = .ok (.ifCond .eq 7, 3) := by decide +kernel
theorem dX5_canSignTogether_70 : decode cX5_canSignTogether 70 = .ok (.iconst 1, 1) := by decide +kernel
theorem dX5_canSignTogether_71 : decode cX5_canSignTogether 71 = .ok (.goto 4, 3) := by decide +kernel
theorem dX5_canSignTogether_74 : decode cX5_canSignTogether 74 = .ok (.iconst 0, 1) := by decide +kernel
theorem dX5_canSignTogether_75 : decode cX5_canSignTogether 75 = .ok (.ireturn, 1) := by decide +kernel
theorem dX5_signers_0 : decode cX5_signers 0 = .ok (.aload_n 0, 1) := by decide +kernel
theorem dX5_signers_1 : decode cX5_signers 1 = .ok (.iload_n 1, 1) := by decide +kernel
theorem dX5_signers_2 : decode cX5_signers 2 = .ok (.iload_n 2, 1) := by decide +kernel
theorem dX5_signers_3 : decode cX5_signers 3 = .ok (.iconst 1, 1) := by decide +kernel
theorem dX5_signers_4 : decode cX5_signers 4 = .ok (.invokevirtual 138, 3) := by decide +kernel
theorem dX5_signers_7 : decode cX5_signers 7 = .ok (.ifCond .eq 5, 3) := by decide +kernel
theorem dX5_signers_10 : decode cX5_signers 10 = .ok (.iconst 0, 1) := by decide +kernel
theorem dX5_signers_11 : decode cX5_signers 11 = .ok (.ireturn, 1) := by decide +kernel
theorem dX5_signers_12 : decode cX5_signers 12 = .ok (.iconst 0, 1) := by decide +kernel
theorem dX5_signers_13 : decode cX5_signers 13 = .ok (.istore_n 3, 1) := by decide +kernel
theorem dX5_signers_14 : decode cX5_signers 14 = .ok (.iconst 0, 1) := by decide +kernel
theorem dX5_signers_15 : decode cX5_signers 15 = .ok (.istore 4, 2) := by decide +kernel
theorem dX5_signers_17 : decode cX5_signers 17 = .ok (.iload 4, 2) := by decide +kernel
theorem dX5_signers_19 : decode cX5_signers 19 = .ok (.aload_n 0, 1) := by decide +kernel
theorem dX5_signers_20 : decode cX5_signers 20 = .ok (.getfield 76, 3) := by decide +kernel
theorem dX5_signers_23 : decode cX5_signers 23 = .ok (.if_icmp .ge 30, 3) := by decide +kernel
theorem dX5_signers_26 : decode cX5_signers 26 = .ok (.iload_n 3, 1) := by decide +kernel
theorem dX5_signers_27 : decode cX5_signers 27 = .ok (.aload_n 0, 1) := by decide +kernel
theorem dX5_signers_28 : decode cX5_signers 28 = .ok (.iload 4, 2) := by decide +kernel
theorem dX5_signers_30 : decode cX5_signers 30 = .ok (.iload_n 1, 1) := by decide +kernel
theorem dX5_signers_31 : decode cX5_signers 31 = .ok (.bipush 115, 2) := by decide +kernel
theorem dX5_signers_33 : decode cX5_signers 33 = .ok (.iload_n 2, 1) := by decide +kernel
theorem dX5_signers_34 : decode cX5_signers 34 = .ok (.invokevirtual 134, 3) := by decide +kernel
theorem dX5_signers_37 : decode cX5_signers 37 = .ok (.ifCond .eq 7, 3) := by decide +kernel
theorem dX5_signers_40 : decode cX5_signers 40 = .ok (.iconst 1, 1) := by decide +kernel
theorem dX5_signers_41 : decode cX5_signers 41 = .ok (.goto 4, 3) := by decide +kernel
theorem dX5_signers_44 : decode cX5_signers 44 = .ok (.iconst 0, 1) := by decide +kernel
theorem dX5_signers_45 : decode cX5_signers 45 = .ok (.iadd, 1) := by decide +kernel
theorem dX5_signers_46 : decode cX5_signers 46 = .ok (.istore_n 3, 1) := by decide +kernel
theorem dX5_signers_47 : decode cX5_signers 47 = .ok (.iinc 4 1, 3) := by decide +kernel
theorem dX5_signers_50 : decode cX5_signers 50 = .ok (.goto (-33), 3) := by decide +kernel
theorem dX5_signers_53 : decode cX5_signers 53 = .ok (.iload_n 3, 1) := by decide +kernel
theorem dX5_signers_54 : decode cX5_signers 54 = .ok (.ireturn, 1) := by decide +kernel
theorem dX5_pairs_0 : decode cX5_pairs 0 = .ok (.aload_n 0, 1) := by decide +kernel
theorem dX5_pairs_1 : decode cX5_pairs 1 = .ok (.iload_n 1, 1) := by decide +kernel
theorem dX5_pairs_2 : decode cX5_pairs 2 = .ok (.iload_n 2, 1) := by decide +kernel
theorem dX5_pairs_3 : decode cX5_pairs 3 = .ok (.iconst 1, 1) := by decide +kernel
theorem dX5_pairs_4 : decode cX5_pairs 4 = .ok (.invokevirtual 138, 3) := by decide +kernel
theorem dX5_pairs_7 : decode cX5_pairs 7 = .ok (.ifCond .eq 5, 3) := by decide +kernel
theorem dX5_pairs_10 : decode cX5_pairs 10 = .ok (.iconst 0, 1) := by decide +kernel
theorem dX5_pairs_11 : decode cX5_pairs 11 = .ok (.ireturn, 1) := by decide +kernel
theorem dX5_pairs_12 : decode cX5_pairs 12 = .ok (.iconst 0, 1) := by decide +kernel
theorem dX5_pairs_13 : decode cX5_pairs 13 = .ok (.istore_n 3, 1) := by decide +kernel
theorem dX5_pairs_14 : decode cX5_pairs 14 = .ok (.iconst 0, 1) := by decide +kernel
theorem dX5_pairs_15 : decode cX5_pairs 15 = .ok (.istore 4, 2) := by decide +kernel
theorem dX5_pairs_17 : decode cX5_pairs 17 = .ok (.iload 4, 2) := by decide +kernel
theorem dX5_pairs_19 : decode cX5_pairs 19 = .ok (.aload_n 0, 1) := by decide +kernel
theorem dX5_pairs_20 : decode cX5_pairs 20 = .ok (.getfield 76, 3) := by decide +kernel
theorem dX5_pairs_23 : decode cX5_pairs 23 = .ok (.if_icmp .ge 46, 3) := by decide +kernel
theorem dX5_pairs_26 : decode cX5_pairs 26 = .ok (.iconst 0, 1) := by decide +kernel
theorem dX5_pairs_27 : decode cX5_pairs 27 = .ok (.istore 5, 2) := by decide +kernel
theorem dX5_pairs_29 : decode cX5_pairs 29 = .ok (.iload 5, 2) := by decide +kernel
theorem dX5_pairs_31 : decode cX5_pairs 31 = .ok (.iload 4, 2) := by decide +kernel
theorem dX5_pairs_33 : decode cX5_pairs 33 = .ok (.if_icmp .ge 30, 3) := by decide +kernel
theorem dX5_pairs_36 : decode cX5_pairs 36 = .ok (.iload_n 3, 1) := by decide +kernel
theorem dX5_pairs_37 : decode cX5_pairs 37 = .ok (.aload_n 0, 1) := by decide +kernel
theorem dX5_pairs_38 : decode cX5_pairs 38 = .ok (.iload 4, 2) := by decide +kernel
theorem dX5_pairs_40 : decode cX5_pairs 40 = .ok (.iload 5, 2) := by decide +kernel
theorem dX5_pairs_42 : decode cX5_pairs 42 = .ok (.iload_n 1, 1) := by decide +kernel
theorem dX5_pairs_43 : decode cX5_pairs 43 = .ok (.iload_n 2, 1) := by decide +kernel
theorem dX5_pairs_44 : decode cX5_pairs 44 = .ok (.invokevirtual 141, 3) := by decide +kernel
theorem dX5_pairs_47 : decode cX5_pairs 47 = .ok (.ifCond .eq 7, 3) := by decide +kernel
theorem dX5_pairs_50 : decode cX5_pairs 50 = .ok (.iconst 1, 1) := by decide +kernel
theorem dX5_pairs_51 : decode cX5_pairs 51 = .ok (.goto 4, 3) := by decide +kernel
theorem dX5_pairs_54 : decode cX5_pairs 54 = .ok (.iconst 0, 1) := by decide +kernel
theorem dX5_pairs_55 : decode cX5_pairs 55 = .ok (.iadd, 1) := by decide +kernel
theorem dX5_pairs_56 : decode cX5_pairs 56 = .ok (.istore_n 3, 1) := by decide +kernel
theorem dX5_pairs_57 : decode cX5_pairs 57 = .ok (.iinc 5 1, 3) := by decide +kernel
theorem dX5_pairs_60 : decode cX5_pairs 60 = .ok (.goto (-31), 3) := by decide +kernel
theorem dX5_pairs_63 : decode cX5_pairs 63 = .ok (.iinc 4 1, 3) := by decide +kernel
theorem dX5_pairs_66 : decode cX5_pairs 66 = .ok (.goto (-49), 3) := by decide +kernel
theorem dX5_pairs_69 : decode cX5_pairs 69 = .ok (.iload_n 3, 1) := by decide +kernel
theorem dX5_pairs_70 : decode cX5_pairs 70 = .ok (.ireturn, 1) := by decide +kernel
theorem dX5_pairsByTrying_0 : decode cX5_pairsByTrying 0 = .ok (.aload_n 0, 1) := by decide +kernel
theorem dX5_pairsByTrying_1 : decode cX5_pairsByTrying 1 = .ok (.iload_n 1, 1) := by decide +kernel
theorem dX5_pairsByTrying_2 : decode cX5_pairsByTrying 2 = .ok (.iload_n 2, 1) := by decide +kernel
theorem dX5_pairsByTrying_3 : decode cX5_pairsByTrying 3 = .ok (.invokevirtual 145, 3) := by decide +kernel
theorem dX5_pairsByTrying_6 : decode cX5_pairsByTrying 6 = .ok (.ireturn, 1) := by decide +kernel
theorem dX5_added_0 : decode cX5_added 0 = .ok (.iload_n 2, 1) := by decide +kernel
theorem dX5_added_1 : decode cX5_added 1 = .ok (.istore 4, 2) := by decide +kernel
theorem dX5_added_3 : decode cX5_added 3 = .ok (.iconst 0, 1) := by decide +kernel
theorem dX5_added_4 : decode cX5_added 4 = .ok (.istore 5, 2) := by decide +kernel
theorem dX5_added_6 : decode cX5_added 6 = .ok (.iload 5, 2) := by decide +kernel
theorem dX5_added_8 : decode cX5_added 8 = .ok (.aload_n 0, 1) := by decide +kernel
theorem dX5_added_9 : decode cX5_added 9 = .ok (.getfield 90, 3) := by decide +kernel
theorem dX5_added_12 : decode cX5_added 12 = .ok (.if_icmp .ge 78, 3) := by decide +kernel
theorem dX5_added_15 : decode cX5_added 15 = .ok (.iload 4, 2) := by decide +kernel
theorem dX5_added_17 : decode cX5_added 17 = .ok (.aload_n 0, 1) := by decide +kernel
theorem dX5_added_18 : decode cX5_added 18 = .ok (.getfield 42, 3) := by decide +kernel
theorem dX5_added_21 : decode cX5_added 21 = .ok (.iload 5, 2) := by decide +kernel
theorem dX5_added_23 : decode cX5_added 23 = .ok (.iaload, 1) := by decide +kernel
theorem dX5_added_24 : decode cX5_added 24 = .ok (.iload_n 1, 1) := by decide +kernel
theorem dX5_added_25 : decode cX5_added 25 = .ok (.if_icmp .ne 55, 3) := by decide +kernel
theorem dX5_added_28 : decode cX5_added 28 = .ok (.aload_n 0, 1) := by decide +kernel
theorem dX5_added_29 : decode cX5_added 29 = .ok (.getfield 48, 3) := by decide +kernel
theorem dX5_added_32 : decode cX5_added 32 = .ok (.iload 5, 2) := by decide +kernel
theorem dX5_added_34 : decode cX5_added 34 = .ok (.iaload, 1) := by decide +kernel
theorem dX5_added_35 : decode cX5_added 35 = .ok (.iload_n 3, 1) := by decide +kernel
theorem dX5_added_36 : decode cX5_added 36 = .ok (.if_icmp .ne 44, 3) := by decide +kernel
theorem dX5_added_39 : decode cX5_added 39 = .ok (.aload_n 0, 1) := by decide +kernel
theorem dX5_added_40 : decode cX5_added 40 = .ok (.getfield 63, 3) := by decide +kernel
theorem dX5_added_43 : decode cX5_added 43 = .ok (.iload 5, 2) := by decide +kernel
theorem dX5_added_45 : decode cX5_added 45 = .ok (.caload, 1) := by decide +kernel
theorem dX5_added_46 : decode cX5_added 46 = .ok (.bipush 110, 2) := by decide +kernel
theorem dX5_added_48 : decode cX5_added 48 = .ok (.if_icmp .eq 32, 3) := by decide +kernel
theorem dX5_added_51 : decode cX5_added 51 = .ok (.aload_n 0, 1) := by decide +kernel
theorem dX5_added_52 : decode cX5_added 52 = .ok (.getfield 122, 3) := by decide +kernel
theorem dX5_added_55 : decode cX5_added 55 = .ok (.aload_n 0, 1) := by decide +kernel
theorem dX5_added_56 : decode cX5_added 56 = .ok (.getfield 51, 3) := by decide +kernel
theorem dX5_added_59 : decode cX5_added 59 = .ok (.iload 5, 2) := by decide +kernel
theorem dX5_added_61 : decode cX5_added 61 = .ok (.iaload, 1) := by decide +kernel
theorem dX5_added_62 : decode cX5_added 62 = .ok (.isub, 1) := by decide +kernel
theorem dX5_added_63 : decode cX5_added 63 = .ok (.aload_n 0, 1) := by decide +kernel
theorem dX5_added_64 : decode cX5_added 64 = .ok (.getfield 69, 3) := by decide +kernel
theorem dX5_added_67 : decode cX5_added 67 = .ok (.if_icmp .ge 13, 3) := by decide +kernel
theorem dX5_added_70 : decode cX5_added 70 = .ok (.aload_n 0, 1) := by decide +kernel
theorem dX5_added_71 : decode cX5_added 71 = .ok (.getfield 45, 3) := by decide +kernel
theorem dX5_added_74 : decode cX5_added 74 = .ok (.iload 5, 2) := by decide +kernel
theorem dX5_added_76 : decode cX5_added 76 = .ok (.iaload, 1) := by decide +kernel
theorem dX5_added_77 : decode cX5_added 77 = .ok (.goto 4, 3) := by decide +kernel
theorem dX5_added_80 : decode cX5_added 80 = .ok (.iconst 0, 1) := by decide +kernel
theorem dX5_added_81 : decode cX5_added 81 = .ok (.iadd, 1) := by decide +kernel
theorem dX5_added_82 : decode cX5_added 82 = .ok (.istore 4, 2) := by decide +kernel
theorem dX5_added_84 : decode cX5_added 84 = .ok (.iinc 5 1, 3) := by decide +kernel
theorem dX5_added_87 : decode cX5_added 87 = .ok (.goto (-81), 3) := by decide +kernel
theorem dX5_added_90 : decode cX5_added 90 = .ok (.iload 4, 2) := by decide +kernel
theorem dX5_added_92 : decode cX5_added 92 = .ok (.ireturn, 1) := by decide +kernel
theorem dX5_order_0 : decode cX5_order 0 = .ok (.iload_n 0, 1) := by decide +kernel
theorem dX5_order_1 : decode cX5_order 1 = .ok (.bipush 107, 2) := by decide +kernel
theorem dX5_order_3 : decode cX5_order 3 = .ok (.if_icmp .ne 7, 3) := by decide +kernel
theorem dX5_order_6 : decode cX5_order 6 = .ok (.iconst 0, 1) := by decide +kernel
theorem dX5_order_7 : decode cX5_order 7 = .ok (.goto 34, 3) := by decide +kernel
theorem dX5_order_10 : decode cX5_order 10 = .ok (.iload_n 0, 1) := by decide +kernel
theorem dX5_order_11 : decode cX5_order 11 = .ok (.bipush 100, 2) := by decide +kernel
theorem dX5_order_13 : decode cX5_order 13 = .ok (.if_icmp .ne 7, 3) := by decide +kernel
theorem dX5_order_16 : decode cX5_order 16 = .ok (.iconst 1, 1) := by decide +kernel
theorem dX5_order_17 : decode cX5_order 17 = .ok (.goto 24, 3) := by decide +kernel
theorem dX5_order_20 : decode cX5_order 20 = .ok (.iload_n 0, 1) := by decide +kernel
theorem dX5_order_21 : decode cX5_order 21 = .ok (.bipush 118, 2) := by decide +kernel
theorem dX5_order_23 : decode cX5_order 23 = .ok (.if_icmp .ne 7, 3) := by decide +kernel
theorem dX5_order_26 : decode cX5_order 26 = .ok (.iconst 2, 1) := by decide +kernel
theorem dX5_order_27 : decode cX5_order 27 = .ok (.goto 14, 3) := by decide +kernel
theorem dX5_order_30 : decode cX5_order 30 = .ok (.iload_n 0, 1) := by decide +kernel
theorem dX5_order_31 : decode cX5_order 31 = .ok (.bipush 108, 2) := by decide +kernel
theorem dX5_order_33 : decode cX5_order 33 = .ok (.if_icmp .ne 7, 3) := by decide +kernel
theorem dX5_order_36 : decode cX5_order 36 = .ok (.iconst 3, 1) := by decide +kernel
theorem dX5_order_37 : decode cX5_order 37 = .ok (.goto 4, 3) := by decide +kernel
theorem dX5_order_40 : decode cX5_order 40 = .ok (.iconst 4, 1) := by decide +kernel
theorem dX5_order_41 : decode cX5_order 41 = .ok (.ireturn, 1) := by decide +kernel
theorem dX5_lacks_0 : decode cX5_lacks 0 = .ok (.aload_n 0, 1) := by decide +kernel
theorem dX5_lacks_1 : decode cX5_lacks 1 = .ok (.getfield 66, 3) := by decide +kernel
theorem dX5_lacks_4 : decode cX5_lacks 4 = .ok (.iload_n 1, 1) := by decide +kernel
theorem dX5_lacks_5 : decode cX5_lacks 5 = .ok (.bipush 107, 2) := by decide +kernel
theorem dX5_lacks_7 : decode cX5_lacks 7 = .ok (.castore, 1) := by decide +kernel
theorem dX5_lacks_8 : decode cX5_lacks 8 = .ok (.aload_n 0, 1) := by decide +kernel
theorem dX5_lacks_9 : decode cX5_lacks 9 = .ok (.getfield 57, 3) := by decide +kernel
theorem dX5_lacks_12 : decode cX5_lacks 12 = .ok (.iload_n 1, 1) := by decide +kernel
theorem dX5_lacks_13 : decode cX5_lacks 13 = .ok (.iconst (-1), 1) := by decide +kernel
theorem dX5_lacks_14 : decode cX5_lacks 14 = .ok (.iastore, 1) := by decide +kernel
theorem dX5_lacks_15 : decode cX5_lacks 15 = .ok (.iconst 0, 1) := by decide +kernel
theorem dX5_lacks_16 : decode cX5_lacks 16 = .ok (.istore 4, 2) := by decide +kernel
theorem dX5_lacks_18 : decode cX5_lacks 18 = .ok (.iload 4, 2) := by decide +kernel
theorem dX5_lacks_20 : decode cX5_lacks 20 = .ok (.aload_n 0, 1) := by decide +kernel
theorem dX5_lacks_21 : decode cX5_lacks 21 = .ok (.getfield 83, 3) := by decide +kernel
theorem dX5_lacks_24 : decode cX5_lacks 24 = .ok (.if_icmp .ge 143, 3) := by decide +kernel
theorem dX5_lacks_27 : decode cX5_lacks 27 = .ok (.aload_n 0, 1) := by decide +kernel
theorem dX5_lacks_28 : decode cX5_lacks 28 = .ok (.getfield 23, 3) := by decide +kernel
theorem dX5_lacks_31 : decode cX5_lacks 31 = .ok (.iload 4, 2) := by decide +kernel
theorem dX5_lacks_33 : decode cX5_lacks 33 = .ok (.iaload, 1) := by decide +kernel
theorem dX5_lacks_34 : decode cX5_lacks 34 = .ok (.aload_n 0, 1) := by decide +kernel
theorem dX5_lacks_35 : decode cX5_lacks 35 = .ok (.getfield 42, 3) := by decide +kernel
theorem dX5_lacks_38 : decode cX5_lacks 38 = .ok (.iload_n 1, 1) := by decide +kernel
theorem dX5_lacks_39 : decode cX5_lacks 39 = .ok (.iaload, 1) := by decide +kernel
theorem dX5_lacks_40 : decode cX5_lacks 40 = .ok (.if_icmp .ne 121, 3) := by decide +kernel
theorem dX5_lacks_43 : decode cX5_lacks 43 = .ok (.aload_n 0, 1) := by decide +kernel
theorem dX5_lacks_44 : decode cX5_lacks 44 = .ok (.iload_n 2, 1) := by decide +kernel
theorem dX5_lacks_45 : decode cX5_lacks 45 = .ok (.aload_n 0, 1) := by decide +kernel
theorem dX5_lacks_46 : decode cX5_lacks 46 = .ok (.getfield 20, 3) := by decide +kernel
theorem dX5_lacks_49 : decode cX5_lacks 49 = .ok (.iload 4, 2) := by decide +kernel
theorem dX5_lacks_51 : decode cX5_lacks 51 = .ok (.iaload, 1) := by decide +kernel
theorem dX5_lacks_52 : decode cX5_lacks 52 = .ok (.invokevirtual 97, 3) := by decide +kernel
theorem dX5_lacks_55 : decode cX5_lacks 55 = .ok (.ifCond .ne 22, 3) := by decide +kernel
theorem dX5_lacks_58 : decode cX5_lacks 58 = .ok (.iload_n 3, 1) := by decide +kernel
theorem dX5_lacks_59 : decode cX5_lacks 59 = .ok (.ifCond .lt 102, 3) := by decide +kernel
theorem dX5_lacks_62 : decode cX5_lacks 62 = .ok (.aload_n 0, 1) := by decide +kernel
theorem dX5_lacks_63 : decode cX5_lacks 63 = .ok (.iload_n 3, 1) := by decide +kernel
theorem dX5_lacks_64 : decode cX5_lacks 64 = .ok (.aload_n 0, 1) := by decide +kernel
theorem dX5_lacks_65 : decode cX5_lacks 65 = .ok (.getfield 20, 3) := by decide +kernel
theorem dX5_lacks_68 : decode cX5_lacks 68 = .ok (.iload 4, 2) := by decide +kernel
theorem dX5_lacks_70 : decode cX5_lacks 70 = .ok (.iaload, 1) := by decide +kernel
theorem dX5_lacks_71 : decode cX5_lacks 71 = .ok (.invokevirtual 97, 3) := by decide +kernel
theorem dX5_lacks_74 : decode cX5_lacks 74 = .ok (.ifCond .eq 87, 3) := by decide +kernel
theorem dX5_lacks_77 : decode cX5_lacks 77 = .ok (.aload_n 0, 1) := by decide +kernel
theorem dX5_lacks_78 : decode cX5_lacks 78 = .ok (.iload 4, 2) := by decide +kernel
theorem dX5_lacks_80 : decode cX5_lacks 80 = .ok (.aload_n 0, 1) := by decide +kernel
theorem dX5_lacks_81 : decode cX5_lacks 81 = .ok (.getfield 54, 3) := by decide +kernel
theorem dX5_lacks_84 : decode cX5_lacks 84 = .ok (.iload_n 1, 1) := by decide +kernel
theorem dX5_lacks_85 : decode cX5_lacks 85 = .ok (.iaload, 1) := by decide +kernel
theorem dX5_lacks_86 : decode cX5_lacks 86 = .ok (.invokevirtual 115, 3) := by decide +kernel
theorem dX5_lacks_89 : decode cX5_lacks 89 = .ok (.istore 5, 2) := by decide +kernel
theorem dX5_lacks_91 : decode cX5_lacks 91 = .ok (.iload 5, 2) := by decide +kernel
theorem dX5_lacks_93 : decode cX5_lacks 93 = .ok (.bipush 45, 2) := by decide +kernel
theorem dX5_lacks_95 : decode cX5_lacks 95 = .ok (.if_icmp .ne 8, 3) := by decide +kernel
theorem dX5_lacks_98 : decode cX5_lacks 98 = .ok (.bipush 104, 2) := by decide +kernel
theorem dX5_lacks_100 : decode cX5_lacks 100 = .ok (.goto 5, 3) := by decide +kernel
theorem dX5_lacks_103 : decode cX5_lacks 103 = .ok (.iload 5, 2) := by decide +kernel
theorem dX5_lacks_105 : decode cX5_lacks 105 = .ok (.istore 6, 2) := by decide +kernel
theorem dX5_lacks_107 : decode cX5_lacks 107 = .ok (.iload 6, 2) := by decide +kernel
theorem dX5_lacks_109 : decode cX5_lacks 109 = .ok (.invokestatic 148, 3) := by decide +kernel
theorem dX5_lacks_112 : decode cX5_lacks 112 = .ok (.aload_n 0, 1) := by decide +kernel
theorem dX5_lacks_113 : decode cX5_lacks 113 = .ok (.getfield 66, 3) := by decide +kernel
theorem dX5_lacks_116 : decode cX5_lacks 116 = .ok (.iload_n 1, 1) := by decide +kernel
theorem dX5_lacks_117 : decode cX5_lacks 117 = .ok (.caload, 1) := by decide +kernel
theorem dX5_lacks_118 : decode cX5_lacks 118 = .ok (.invokestatic 148, 3) := by decide +kernel
theorem dX5_lacks_121 : decode cX5_lacks 121 = .ok (.if_icmp .le 40, 3) := by decide +kernel
theorem dX5_lacks_124 : decode cX5_lacks 124 = .ok (.aload_n 0, 1) := by decide +kernel
theorem dX5_lacks_125 : decode cX5_lacks 125 = .ok (.getfield 66, 3) := by decide +kernel
theorem dX5_lacks_128 : decode cX5_lacks 128 = .ok (.iload_n 1, 1) := by decide +kernel
theorem dX5_lacks_129 : decode cX5_lacks 129 = .ok (.iload 6, 2) := by decide +kernel
theorem dX5_lacks_131 : decode cX5_lacks 131 = .ok (.castore, 1) := by decide +kernel
theorem dX5_lacks_132 : decode cX5_lacks 132 = .ok (.aload_n 0, 1) := by decide +kernel
theorem dX5_lacks_133 : decode cX5_lacks 133 = .ok (.getfield 57, 3) := by decide +kernel
theorem dX5_lacks_136 : decode cX5_lacks 136 = .ok (.iload_n 1, 1) := by decide +kernel
theorem dX5_lacks_137 : decode cX5_lacks 137 = .ok (.iload 4, 2) := by decide +kernel
theorem dX5_lacks_139 : decode cX5_lacks 139 = .ok (.iastore, 1) := by decide +kernel
theorem dX5_lacks_140 : decode cX5_lacks 140 = .ok (.aload_n 0, 1) := by decide +kernel
theorem dX5_lacks_141 : decode cX5_lacks 141 = .ok (.getfield 60, 3) := by decide +kernel
theorem dX5_lacks_144 : decode cX5_lacks 144 = .ok (.iload_n 1, 1) := by decide +kernel
theorem dX5_lacks_145 : decode cX5_lacks 145 = .ok (.iload 5, 2) := by decide +kernel
theorem dX5_lacks_147 : decode cX5_lacks 147 = .ok (.bipush 45, 2) := by decide +kernel
theorem dX5_lacks_149 : decode cX5_lacks 149 = .ok (.if_icmp .ne 7, 3) := by decide +kernel
theorem dX5_lacks_152 : decode cX5_lacks 152 = .ok (.iconst 0, 1) := by decide +kernel
theorem dX5_lacks_153 : decode cX5_lacks 153 = .ok (.goto 7, 3) := by decide +kernel
theorem dX5_lacks_156 : decode cX5_lacks 156 = .ok (.aload_n 0, 1) := by decide +kernel
theorem dX5_lacks_157 : decode cX5_lacks 157 = .ok (.getfield 119, 3) := by decide +kernel
theorem dX5_lacks_160 : decode cX5_lacks 160 = .ok (.iastore, 1) := by decide +kernel
theorem dX5_lacks_161 : decode cX5_lacks 161 = .ok (.iinc 4 1, 3) := by decide +kernel
theorem dX5_lacks_164 : decode cX5_lacks 164 = .ok (.goto (-146), 3) := by decide +kernel
theorem dX5_lacks_167 : decode cX5_lacks 167 = .ok (.return_, 1) := by decide +kernel
theorem dX5_signed_0 : decode cX5_signed 0 = .ok (.aload_n 0, 1) := by decide +kernel
theorem dX5_signed_1 : decode cX5_signed 1 = .ok (.getfield 90, 3) := by decide +kernel
theorem dX5_signed_4 : decode cX5_signed 4 = .ok (.istore 6, 2) := by decide +kernel
theorem dX5_signed_6 : decode cX5_signed 6 = .ok (.aload_n 0, 1) := by decide +kernel
theorem dX5_signed_7 : decode cX5_signed 7 = .ok (.getfield 42, 3) := by decide +kernel
theorem dX5_signed_10 : decode cX5_signed 10 = .ok (.iload 6, 2) := by decide +kernel
theorem dX5_signed_12 : decode cX5_signed 12 = .ok (.iload_n 3, 1) := by decide +kernel
theorem dX5_signed_13 : decode cX5_signed 13 = .ok (.iastore, 1) := by decide +kernel
theorem dX5_signed_14 : decode cX5_signed 14 = .ok (.aload_n 0, 1) := by decide +kernel
theorem dX5_signed_15 : decode cX5_signed 15 = .ok (.getfield 45, 3) := by decide +kernel
theorem dX5_signed_18 : decode cX5_signed 18 = .ok (.iload 6, 2) := by decide +kernel
theorem dX5_signed_20 : decode cX5_signed 20 = .ok (.iload 4, 2) := by decide +kernel
theorem dX5_signed_22 : decode cX5_signed 22 = .ok (.iastore, 1) := by decide +kernel
theorem dX5_signed_23 : decode cX5_signed 23 = .ok (.aload_n 0, 1) := by decide +kernel
theorem dX5_signed_24 : decode cX5_signed 24 = .ok (.getfield 48, 3) := by decide +kernel
theorem dX5_signed_27 : decode cX5_signed 27 = .ok (.iload 6, 2) := by decide +kernel
theorem dX5_signed_29 : decode cX5_signed 29 = .ok (.iload 5, 2) := by decide +kernel
theorem dX5_signed_31 : decode cX5_signed 31 = .ok (.iastore, 1) := by decide +kernel
theorem dX5_signed_32 : decode cX5_signed 32 = .ok (.aload_n 0, 1) := by decide +kernel
theorem dX5_signed_33 : decode cX5_signed 33 = .ok (.getfield 51, 3) := by decide +kernel
theorem dX5_signed_36 : decode cX5_signed 36 = .ok (.iload 6, 2) := by decide +kernel
theorem dX5_signed_38 : decode cX5_signed 38 = .ok (.aload_n 0, 1) := by decide +kernel
theorem dX5_signed_39 : decode cX5_signed 39 = .ok (.getfield 122, 3) := by decide +kernel
theorem dX5_signed_42 : decode cX5_signed 42 = .ok (.iastore, 1) := by decide +kernel
theorem dX5_signed_43 : decode cX5_signed 43 = .ok (.aload_n 0, 1) := by decide +kernel
theorem dX5_signed_44 : decode cX5_signed 44 = .ok (.getfield 54, 3) := by decide +kernel
theorem dX5_signed_47 : decode cX5_signed 47 = .ok (.iload 6, 2) := by decide +kernel
theorem dX5_signed_49 : decode cX5_signed 49 = .ok (.aload_n 0, 1) := by decide +kernel
theorem dX5_signed_50 : decode cX5_signed 50 = .ok (.iload_n 3, 1) := by decide +kernel
theorem dX5_signed_51 : decode cX5_signed 51 = .ok (.iload 4, 2) := by decide +kernel
theorem dX5_signed_53 : decode cX5_signed 53 = .ok (.iload 5, 2) := by decide +kernel
theorem dX5_signed_55 : decode cX5_signed 55 = .ok (.invokevirtual 152, 3) := by decide +kernel
theorem dX5_signed_58 : decode cX5_signed 58 = .ok (.iastore, 1) := by decide +kernel
theorem dX5_signed_59 : decode cX5_signed 59 = .ok (.iload_n 2, 1) := by decide +kernel
theorem dX5_signed_60 : decode cX5_signed 60 = .ok (.ifCond .ge 21, 3) := by decide +kernel
theorem dX5_signed_63 : decode cX5_signed 63 = .ok (.aload_n 0, 1) := by decide +kernel
theorem dX5_signed_64 : decode cX5_signed 64 = .ok (.iload_n 1, 1) := by decide +kernel
theorem dX5_signed_65 : decode cX5_signed 65 = .ok (.iload_n 3, 1) := by decide +kernel
theorem dX5_signed_66 : decode cX5_signed 66 = .ok (.bipush 115, 2) := by decide +kernel
theorem dX5_signed_68 : decode cX5_signed 68 = .ok (.aload_n 0, 1) := by decide +kernel
theorem dX5_signed_69 : decode cX5_signed 69 = .ok (.getfield 54, 3) := by decide +kernel
theorem dX5_signed_72 : decode cX5_signed 72 = .ok (.iload 6, 2) := by decide +kernel
theorem dX5_signed_74 : decode cX5_signed 74 = .ok (.iaload, 1) := by decide +kernel
theorem dX5_signed_75 : decode cX5_signed 75 = .ok (.invokevirtual 134, 3) := by decide +kernel
theorem dX5_signed_78 : decode cX5_signed 78 = .ok (.goto 17, 3) := by decide +kernel
theorem dX5_signed_81 : decode cX5_signed 81 = .ok (.aload_n 0, 1) := by decide +kernel
theorem dX5_signed_82 : decode cX5_signed 82 = .ok (.iload_n 1, 1) := by decide +kernel
theorem dX5_signed_83 : decode cX5_signed 83 = .ok (.iload_n 2, 1) := by decide +kernel
theorem dX5_signed_84 : decode cX5_signed 84 = .ok (.iload_n 3, 1) := by decide +kernel
theorem dX5_signed_85 : decode cX5_signed 85 = .ok (.aload_n 0, 1) := by decide +kernel
theorem dX5_signed_86 : decode cX5_signed 86 = .ok (.getfield 54, 3) := by decide +kernel
theorem dX5_signed_89 : decode cX5_signed 89 = .ok (.iload 6, 2) := by decide +kernel
theorem dX5_signed_91 : decode cX5_signed 91 = .ok (.iaload, 1) := by decide +kernel
theorem dX5_signed_92 : decode cX5_signed 92 = .ok (.invokevirtual 141, 3) := by decide +kernel
theorem dX5_signed_95 : decode cX5_signed 95 = .ok (.istore 7, 2) := by decide +kernel
theorem dX5_signed_97 : decode cX5_signed 97 = .ok (.aload_n 0, 1) := by decide +kernel
theorem dX5_signed_98 : decode cX5_signed 98 = .ok (.getfield 63, 3) := by decide +kernel
theorem dX5_signed_101 : decode cX5_signed 101 = .ok (.iload 6, 2) := by decide +kernel
theorem dX5_signed_103 : decode cX5_signed 103 = .ok (.iload 7, 2) := by decide +kernel
theorem dX5_signed_105 : decode cX5_signed 105 = .ok (.ifCond .eq 8, 3) := by decide +kernel
theorem dX5_signed_108 : decode cX5_signed 108 = .ok (.bipush 115, 2) := by decide +kernel
theorem dX5_signed_110 : decode cX5_signed 110 = .ok (.goto 5, 3) := by decide +kernel
theorem dX5_signed_113 : decode cX5_signed 113 = .ok (.bipush 119, 2) := by decide +kernel
theorem dX5_signed_115 : decode cX5_signed 115 = .ok (.castore, 1) := by decide +kernel
theorem dX5_signed_116 : decode cX5_signed 116 = .ok (.iload 7, 2) := by decide +kernel
theorem dX5_signed_118 : decode cX5_signed 118 = .ok (.ifCond .ne 11, 3) := by decide +kernel
theorem dX5_signed_121 : decode cX5_signed 121 = .ok (.aload_n 0, 1) := by decide +kernel
theorem dX5_signed_122 : decode cX5_signed 122 = .ok (.iload 6, 2) := by decide +kernel
theorem dX5_signed_124 : decode cX5_signed 124 = .ok (.iload_n 1, 1) := by decide +kernel
theorem dX5_signed_125 : decode cX5_signed 125 = .ok (.iload_n 2, 1) := by decide +kernel
theorem dX5_signed_126 : decode cX5_signed 126 = .ok (.invokevirtual 156, 3) := by decide +kernel
theorem dX5_signed_129 : decode cX5_signed 129 = .ok (.aload_n 0, 1) := by decide +kernel
theorem dX5_signed_130 : decode cX5_signed 130 = .ok (.dup, 1) := by decide +kernel
theorem dX5_signed_131 : decode cX5_signed 131 = .ok (.getfield 90, 3) := by decide +kernel
theorem dX5_signed_134 : decode cX5_signed 134 = .ok (.iconst 1, 1) := by decide +kernel
theorem dX5_signed_135 : decode cX5_signed 135 = .ok (.iadd, 1) := by decide +kernel
theorem dX5_signed_136 : decode cX5_signed 136 = .ok (.putfield 90, 3) := by decide +kernel
theorem dX5_signed_139 : decode cX5_signed 139 = .ok (.iload 6, 2) := by decide +kernel
theorem dX5_signed_141 : decode cX5_signed 141 = .ok (.ireturn, 1) := by decide +kernel
theorem dX5_isNoDeed__0 : decode cX5_isNoDeed_ 0 = .ok (.aload_n 0, 1) := by decide +kernel
theorem dX5_isNoDeed__1 : decode cX5_isNoDeed_ 1 = .ok (.iload_n 1, 1) := by decide +kernel
theorem dX5_isNoDeed__2 : decode cX5_isNoDeed_ 2 = .ok (.iconst 0, 1) := by decide +kernel
theorem dX5_isNoDeed__3 : decode cX5_isNoDeed_ 3 = .ok (.iconst 3, 1) := by decide +kernel
theorem dX5_isNoDeed__4 : decode cX5_isNoDeed_ 4 = .ok (.invokestatic 79, 3) := by decide +kernel
theorem dX5_isNoDeed__7 : decode cX5_isNoDeed_ 7 = .ok (.ifCond .eq 24, 3) := by decide +kernel
theorem dX5_isNoDeed__10 : decode cX5_isNoDeed_ 10 = .ok (.iload_n 3, 1) := by decide +kernel
theorem dX5_isNoDeed__11 : decode cX5_isNoDeed_ 11 = .ok (.iconst 0, 1) := by decide +kernel
theorem dX5_isNoDeed__12 : decode cX5_isNoDeed_ 12 = .ok (.bipush 9, 2) := by decide +kernel
theorem dX5_isNoDeed__14 : decode cX5_isNoDeed_ 14 = .ok (.invokestatic 79, 3) := by decide +kernel
theorem dX5_isNoDeed__17 : decode cX5_isNoDeed_ 17 = .ok (.ifCond .eq 14, 3) := by decide +kernel
theorem dX5_isNoDeed__20 : decode cX5_isNoDeed_ 20 = .ok (.iload_n 2, 1) := by decide +kernel
theorem dX5_isNoDeed__21 : decode cX5_isNoDeed_ 21 = .ok (.iconst 1, 1) := by decide +kernel
theorem dX5_isNoDeed__22 : decode cX5_isNoDeed_ 22 = .ok (.sipush 9999, 3) := by decide +kernel
theorem dX5_isNoDeed__25 : decode cX5_isNoDeed_ 25 = .ok (.invokestatic 79, 3) := by decide +kernel
theorem dX5_isNoDeed__28 : decode cX5_isNoDeed_ 28 = .ok (.ifCond .ne 7, 3) := by decide +kernel
theorem dX5_isNoDeed__31 : decode cX5_isNoDeed_ 31 = .ok (.iconst 1, 1) := by decide +kernel
theorem dX5_isNoDeed__32 : decode cX5_isNoDeed_ 32 = .ok (.goto 4, 3) := by decide +kernel
theorem dX5_isNoDeed__35 : decode cX5_isNoDeed_ 35 = .ok (.iconst 0, 1) := by decide +kernel
theorem dX5_isNoDeed__36 : decode cX5_isNoDeed_ 36 = .ok (.iconst 2, 1) := by decide +kernel
theorem dX5_isNoDeed__37 : decode cX5_isNoDeed_ 37 = .ok (.invokevirtual 86, 3) := by decide +kernel
theorem dX5_isNoDeed__40 : decode cX5_isNoDeed_ 40 = .ok (.ireturn, 1) := by decide +kernel
theorem dX5_sign_0 : decode cX5_sign 0 = .ok (.aload_n 0, 1) := by decide +kernel
theorem dX5_sign_1 : decode cX5_sign 1 = .ok (.aload_n 0, 1) := by decide +kernel
theorem dX5_sign_2 : decode cX5_sign 2 = .ok (.iload_n 1, 1) := by decide +kernel
theorem dX5_sign_3 : decode cX5_sign 3 = .ok (.invokevirtual 93, 3) := by decide +kernel
theorem dX5_sign_6 : decode cX5_sign 6 = .ok (.iconst 1, 1) := by decide +kernel
theorem dX5_sign_7 : decode cX5_sign 7 = .ok (.invokevirtual 86, 3) := by decide +kernel
theorem dX5_sign_10 : decode cX5_sign 10 = .ok (.ifCond .ne 36, 3) := by decide +kernel
theorem dX5_sign_13 : decode cX5_sign 13 = .ok (.aload_n 0, 1) := by decide +kernel
theorem dX5_sign_14 : decode cX5_sign 14 = .ok (.iload_n 2, 1) := by decide +kernel
theorem dX5_sign_15 : decode cX5_sign 15 = .ok (.iload_n 3, 1) := by decide +kernel
theorem dX5_sign_16 : decode cX5_sign 16 = .ok (.iload 4, 2) := by decide +kernel
theorem dX5_sign_18 : decode cX5_sign 18 = .ok (.invokevirtual 160, 3) := by decide +kernel
theorem dX5_sign_21 : decode cX5_sign 21 = .ok (.ifCond .ne 25, 3) := by decide +kernel
theorem dX5_sign_24 : decode cX5_sign 24 = .ok (.aload_n 0, 1) := by decide +kernel
theorem dX5_sign_25 : decode cX5_sign 25 = .ok (.aload_n 0, 1) := by decide +kernel
theorem dX5_sign_26 : decode cX5_sign 26 = .ok (.getfield 90, 3) := by decide +kernel
theorem dX5_sign_29 : decode cX5_sign 29 = .ok (.bipush 24, 2) := by decide +kernel
theorem dX5_sign_31 : decode cX5_sign 31 = .ok (.if_icmp .ne 7, 3) := by decide +kernel
theorem dX5_sign_34 : decode cX5_sign 34 = .ok (.iconst 1, 1) := by decide +kernel
theorem dX5_sign_35 : decode cX5_sign 35 = .ok (.goto 4, 3) := by decide +kernel
theorem dX5_sign_38 : decode cX5_sign 38 = .ok (.iconst 0, 1) := by decide +kernel
theorem dX5_sign_39 : decode cX5_sign 39 = .ok (.iconst 3, 1) := by decide +kernel
theorem dX5_sign_40 : decode cX5_sign 40 = .ok (.invokevirtual 86, 3) := by decide +kernel
theorem dX5_sign_43 : decode cX5_sign 43 = .ok (.ifCond .eq 5, 3) := by decide +kernel
theorem dX5_sign_46 : decode cX5_sign 46 = .ok (.iconst 0, 1) := by decide +kernel
theorem dX5_sign_47 : decode cX5_sign 47 = .ok (.ireturn, 1) := by decide +kernel
theorem dX5_sign_48 : decode cX5_sign 48 = .ok (.aload_n 0, 1) := by decide +kernel
theorem dX5_sign_49 : decode cX5_sign 49 = .ok (.iload_n 1, 1) := by decide +kernel
theorem dX5_sign_50 : decode cX5_sign 50 = .ok (.iconst (-1), 1) := by decide +kernel
theorem dX5_sign_51 : decode cX5_sign 51 = .ok (.iload_n 2, 1) := by decide +kernel
theorem dX5_sign_52 : decode cX5_sign 52 = .ok (.iload_n 3, 1) := by decide +kernel
theorem dX5_sign_53 : decode cX5_sign 53 = .ok (.iload 4, 2) := by decide +kernel
theorem dX5_sign_55 : decode cX5_sign 55 = .ok (.invokevirtual 163, 3) := by decide +kernel
theorem dX5_sign_58 : decode cX5_sign 58 = .ok (.ireturn, 1) := by decide +kernel
theorem dX5_signTogether_0 : decode cX5_signTogether 0 = .ok (.aload_n 0, 1) := by decide +kernel
theorem dX5_signTogether_1 : decode cX5_signTogether 1 = .ok (.aload_n 0, 1) := by decide +kernel
theorem dX5_signTogether_2 : decode cX5_signTogether 2 = .ok (.iload_n 1, 1) := by decide +kernel
theorem dX5_signTogether_3 : decode cX5_signTogether 3 = .ok (.invokevirtual 93, 3) := by decide +kernel
theorem dX5_signTogether_6 : decode cX5_signTogether 6 = .ok (.ifCond .ne 11, 3) := by decide +kernel
theorem dX5_signTogether_9 : decode cX5_signTogether 9 = .ok (.aload_n 0, 1) := by decide +kernel
theorem dX5_signTogether_10 : decode cX5_signTogether 10 = .ok (.iload_n 2, 1) := by decide +kernel
theorem dX5_signTogether_11 : decode cX5_signTogether 11 = .ok (.invokevirtual 93, 3) := by decide +kernel
theorem dX5_signTogether_14 : decode cX5_signTogether 14 = .ok (.ifCond .eq 7, 3) := by decide +kernel
theorem dX5_signTogether_17 : decode cX5_signTogether 17 = .ok (.iconst 1, 1) := by decide +kernel
theorem dX5_signTogether_18 : decode cX5_signTogether 18 = .ok (.goto 4, 3) := by decide +kernel
theorem dX5_signTogether_21 : decode cX5_signTogether 21 = .ok (.iconst 0, 1) := by decide +kernel
theorem dX5_signTogether_22 : decode cX5_signTogether 22 = .ok (.iconst 1, 1) := by decide +kernel
theorem dX5_signTogether_23 : decode cX5_signTogether 23 = .ok (.invokevirtual 86, 3) := by decide +kernel
theorem dX5_signTogether_26 : decode cX5_signTogether 26 = .ok (.ifCond .ne 55, 3) := by decide +kernel
theorem dX5_signTogether_29 : decode cX5_signTogether 29 = .ok (.aload_n 0, 1) := by decide +kernel
theorem dX5_signTogether_30 : decode cX5_signTogether 30 = .ok (.iload_n 3, 1) := by decide +kernel
theorem dX5_signTogether_31 : decode cX5_signTogether 31 = .ok (.iload 4, 2) := by decide +kernel
theorem dX5_signTogether_33 : decode cX5_signTogether 33 = .ok (.iload 5, 2) := by decide +kernel
theorem dX5_signTogether_35 : decode cX5_signTogether 35 = .ok (.invokevirtual 160, 3) := by decide +kernel
theorem dX5_signTogether_38 : decode cX5_signTogether 38 = .ok (.ifCond .ne 43, 3) := by decide +kernel
theorem dX5_signTogether_41 : decode cX5_signTogether 41 = .ok (.aload_n 0, 1) := by decide +kernel
theorem dX5_signTogether_42 : decode cX5_signTogether 42 = .ok (.iload_n 1, 1) := by decide +kernel
theorem dX5_signTogether_43 : decode cX5_signTogether 43 = .ok (.iload_n 2, 1) := by decide +kernel
theorem dX5_signTogether_44 : decode cX5_signTogether 44 = .ok (.if_icmp .ne 7, 3) := by decide +kernel
theorem dX5_signTogether_47 : decode cX5_signTogether 47 = .ok (.iconst 1, 1) := by decide +kernel
theorem dX5_signTogether_48 : decode cX5_signTogether 48 = .ok (.goto 4, 3) := by decide +kernel
theorem dX5_signTogether_51 : decode cX5_signTogether 51 = .ok (.iconst 0, 1) := by decide +kernel
theorem dX5_signTogether_52 : decode cX5_signTogether 52 = .ok (.iconst 3, 1) := by decide +kernel
theorem dX5_signTogether_53 : decode cX5_signTogether 53 = .ok (.invokevirtual 86, 3) := by decide +kernel
theorem dX5_signTogether_56 : decode cX5_signTogether 56 = .ok (.ifCond .ne 25, 3) := by decide +kernel
theorem dX5_signTogether_59 : decode cX5_signTogether 59 = .ok (.aload_n 0, 1) := by decide +kernel
theorem dX5_signTogether_60 : decode cX5_signTogether 60 = .ok (.aload_n 0, 1) := by decide +kernel
theorem dX5_signTogether_61 : decode cX5_signTogether 61 = .ok (.getfield 90, 3) := by decide +kernel
theorem dX5_signTogether_64 : decode cX5_signTogether 64 = .ok (.bipush 24, 2) := by decide +kernel
theorem dX5_signTogether_66 : decode cX5_signTogether 66 = .ok (.if_icmp .ne 7, 3) := by decide +kernel
theorem dX5_signTogether_69 : decode cX5_signTogether 69 = .ok (.iconst 1, 1) := by decide +kernel
theorem dX5_signTogether_70 : decode cX5_signTogether 70 = .ok (.goto 4, 3) := by decide +kernel
theorem dX5_signTogether_73 : decode cX5_signTogether 73 = .ok (.iconst 0, 1) := by decide +kernel
theorem dX5_signTogether_74 : decode cX5_signTogether 74 = .ok (.iconst 4, 1) := by decide +kernel
theorem dX5_signTogether_75 : decode cX5_signTogether 75 = .ok (.invokevirtual 86, 3) := by decide +kernel
theorem dX5_signTogether_78 : decode cX5_signTogether 78 = .ok (.ifCond .eq 5, 3) := by decide +kernel
theorem dX5_signTogether_81 : decode cX5_signTogether 81 = .ok (.iconst 0, 1) := by decide +kernel
theorem dX5_signTogether_82 : decode cX5_signTogether 82 = .ok (.ireturn, 1) := by decide +kernel
theorem dX5_signTogether_83 : decode cX5_signTogether 83 = .ok (.aload_n 0, 1) := by decide +kernel
theorem dX5_signTogether_84 : decode cX5_signTogether 84 = .ok (.iload_n 1, 1) := by decide +kernel
theorem dX5_signTogether_85 : decode cX5_signTogether 85 = .ok (.iload_n 2, 1) := by decide +kernel
theorem dX5_signTogether_86 : decode cX5_signTogether 86 = .ok (.iload_n 3, 1) := by decide +kernel
theorem dX5_signTogether_87 : decode cX5_signTogether 87 = .ok (.iload 4, 2) := by decide +kernel
theorem dX5_signTogether_89 : decode cX5_signTogether 89 = .ok (.iload 5, 2) := by decide +kernel
theorem dX5_signTogether_91 : decode cX5_signTogether 91 = .ok (.invokevirtual 163, 3) := by decide +kernel
theorem dX5_signTogether_94 : decode cX5_signTogether 94 = .ok (.ireturn, 1) := by decide +kernel
theorem dX5_ratify_0 : decode cX5_ratify 0 = .ok (.aload_n 0, 1) := by decide +kernel
theorem dX5_ratify_1 : decode cX5_ratify 1 = .ok (.iload_n 1, 1) := by decide +kernel
theorem dX5_ratify_2 : decode cX5_ratify 2 = .ok (.iconst 0, 1) := by decide +kernel
theorem dX5_ratify_3 : decode cX5_ratify 3 = .ok (.aload_n 0, 1) := by decide +kernel
theorem dX5_ratify_4 : decode cX5_ratify 4 = .ok (.getfield 90, 3) := by decide +kernel
theorem dX5_ratify_7 : decode cX5_ratify 7 = .ok (.iconst 1, 1) := by decide +kernel
theorem dX5_ratify_8 : decode cX5_ratify 8 = .ok (.isub, 1) := by decide +kernel
theorem dX5_ratify_9 : decode cX5_ratify 9 = .ok (.invokestatic 79, 3) := by decide +kernel
theorem dX5_ratify_12 : decode cX5_ratify 12 = .ok (.ifCond .eq 11, 3) := by decide +kernel
theorem dX5_ratify_15 : decode cX5_ratify 15 = .ok (.aload_n 0, 1) := by decide +kernel
theorem dX5_ratify_16 : decode cX5_ratify 16 = .ok (.iload_n 2, 1) := by decide +kernel
theorem dX5_ratify_17 : decode cX5_ratify 17 = .ok (.invokevirtual 93, 3) := by decide +kernel
theorem dX5_ratify_20 : decode cX5_ratify 20 = .ok (.ifCond .eq 7, 3) := by decide +kernel
theorem dX5_ratify_23 : decode cX5_ratify 23 = .ok (.iconst 1, 1) := by decide +kernel
theorem dX5_ratify_24 : decode cX5_ratify 24 = .ok (.goto 4, 3) := by decide +kernel
theorem dX5_ratify_27 : decode cX5_ratify 27 = .ok (.iconst 0, 1) := by decide +kernel
theorem dX5_ratify_28 : decode cX5_ratify 28 = .ok (.iconst 1, 1) := by decide +kernel
theorem dX5_ratify_29 : decode cX5_ratify 29 = .ok (.invokevirtual 86, 3) := by decide +kernel
theorem dX5_ratify_32 : decode cX5_ratify 32 = .ok (.ifCond .ne 62, 3) := by decide +kernel
theorem dX5_ratify_35 : decode cX5_ratify 35 = .ok (.aload_n 0, 1) := by decide +kernel
theorem dX5_ratify_36 : decode cX5_ratify 36 = .ok (.aload_n 0, 1) := by decide +kernel
theorem dX5_ratify_37 : decode cX5_ratify 37 = .ok (.getfield 63, 3) := by decide +kernel
theorem dX5_ratify_40 : decode cX5_ratify 40 = .ok (.iload_n 1, 1) := by decide +kernel
theorem dX5_ratify_41 : decode cX5_ratify 41 = .ok (.caload, 1) := by decide +kernel
theorem dX5_ratify_42 : decode cX5_ratify 42 = .ok (.bipush 119, 2) := by decide +kernel
theorem dX5_ratify_44 : decode cX5_ratify 44 = .ok (.if_icmp .eq 7, 3) := by decide +kernel
theorem dX5_ratify_47 : decode cX5_ratify 47 = .ok (.iconst 1, 1) := by decide +kernel
theorem dX5_ratify_48 : decode cX5_ratify 48 = .ok (.goto 4, 3) := by decide +kernel
theorem dX5_ratify_51 : decode cX5_ratify 51 = .ok (.iconst 0, 1) := by decide +kernel
theorem dX5_ratify_52 : decode cX5_ratify 52 = .ok (.iconst 2, 1) := by decide +kernel
theorem dX5_ratify_53 : decode cX5_ratify 53 = .ok (.invokevirtual 86, 3) := by decide +kernel
theorem dX5_ratify_56 : decode cX5_ratify 56 = .ok (.ifCond .ne 38, 3) := by decide +kernel
theorem dX5_ratify_59 : decode cX5_ratify 59 = .ok (.aload_n 0, 1) := by decide +kernel
theorem dX5_ratify_60 : decode cX5_ratify 60 = .ok (.aload_n 0, 1) := by decide +kernel
theorem dX5_ratify_61 : decode cX5_ratify 61 = .ok (.iload_n 2, 1) := by decide +kernel
theorem dX5_ratify_62 : decode cX5_ratify 62 = .ok (.aload_n 0, 1) := by decide +kernel
theorem dX5_ratify_63 : decode cX5_ratify 63 = .ok (.getfield 42, 3) := by decide +kernel
theorem dX5_ratify_66 : decode cX5_ratify 66 = .ok (.iload_n 1, 1) := by decide +kernel
theorem dX5_ratify_67 : decode cX5_ratify 67 = .ok (.iaload, 1) := by decide +kernel
theorem dX5_ratify_68 : decode cX5_ratify 68 = .ok (.bipush 115, 2) := by decide +kernel
theorem dX5_ratify_70 : decode cX5_ratify 70 = .ok (.aload_n 0, 1) := by decide +kernel
theorem dX5_ratify_71 : decode cX5_ratify 71 = .ok (.getfield 54, 3) := by decide +kernel
theorem dX5_ratify_74 : decode cX5_ratify 74 = .ok (.iload_n 1, 1) := by decide +kernel
theorem dX5_ratify_75 : decode cX5_ratify 75 = .ok (.iaload, 1) := by decide +kernel
theorem dX5_ratify_76 : decode cX5_ratify 76 = .ok (.invokevirtual 134, 3) := by decide +kernel
theorem dX5_ratify_79 : decode cX5_ratify 79 = .ok (.ifCond .ne 7, 3) := by decide +kernel
theorem dX5_ratify_82 : decode cX5_ratify 82 = .ok (.iconst 1, 1) := by decide +kernel
theorem dX5_ratify_83 : decode cX5_ratify 83 = .ok (.goto 4, 3) := by decide +kernel
theorem dX5_ratify_86 : decode cX5_ratify 86 = .ok (.iconst 0, 1) := by decide +kernel
theorem dX5_ratify_87 : decode cX5_ratify 87 = .ok (.iconst 3, 1) := by decide +kernel
theorem dX5_ratify_88 : decode cX5_ratify 88 = .ok (.invokevirtual 86, 3) := by decide +kernel
theorem dX5_ratify_91 : decode cX5_ratify 91 = .ok (.ifCond .eq 5, 3) := by decide +kernel
theorem dX5_ratify_94 : decode cX5_ratify 94 = .ok (.iconst 0, 1) := by decide +kernel
theorem dX5_ratify_95 : decode cX5_ratify 95 = .ok (.ireturn, 1) := by decide +kernel
theorem dX5_ratify_96 : decode cX5_ratify 96 = .ok (.aload_n 0, 1) := by decide +kernel
theorem dX5_ratify_97 : decode cX5_ratify 97 = .ok (.getfield 63, 3) := by decide +kernel
theorem dX5_ratify_100 : decode cX5_ratify 100 = .ok (.iload_n 1, 1) := by decide +kernel
theorem dX5_ratify_101 : decode cX5_ratify 101 = .ok (.bipush 114, 2) := by decide +kernel
theorem dX5_ratify_103 : decode cX5_ratify 103 = .ok (.castore, 1) := by decide +kernel
theorem dX5_ratify_104 : decode cX5_ratify 104 = .ok (.aload_n 0, 1) := by decide +kernel
theorem dX5_ratify_105 : decode cX5_ratify 105 = .ok (.getfield 54, 3) := by decide +kernel
theorem dX5_ratify_108 : decode cX5_ratify 108 = .ok (.iload_n 1, 1) := by decide +kernel
theorem dX5_ratify_109 : decode cX5_ratify 109 = .ok (.iaload, 1) := by decide +kernel
theorem dX5_ratify_110 : decode cX5_ratify 110 = .ok (.ireturn, 1) := by decide +kernel
theorem dX5_annul_0 : decode cX5_annul 0 = .ok (.aload_n 0, 1) := by decide +kernel
theorem dX5_annul_1 : decode cX5_annul 1 = .ok (.iload_n 1, 1) := by decide +kernel
theorem dX5_annul_2 : decode cX5_annul 2 = .ok (.invokevirtual 167, 3) := by decide +kernel
theorem dX5_annul_5 : decode cX5_annul 5 = .ok (.ifCond .ne 27, 3) := by decide +kernel
theorem dX5_annul_8 : decode cX5_annul 8 = .ok (.aload_n 0, 1) := by decide +kernel
theorem dX5_annul_9 : decode cX5_annul 9 = .ok (.aload_n 0, 1) := by decide +kernel
theorem dX5_annul_10 : decode cX5_annul 10 = .ok (.getfield 63, 3) := by decide +kernel
theorem dX5_annul_13 : decode cX5_annul 13 = .ok (.iload_n 1, 1) := by decide +kernel
theorem dX5_annul_14 : decode cX5_annul 14 = .ok (.caload, 1) := by decide +kernel
theorem dX5_annul_15 : decode cX5_annul 15 = .ok (.bipush 119, 2) := by decide +kernel
theorem dX5_annul_17 : decode cX5_annul 17 = .ok (.if_icmp .eq 7, 3) := by decide +kernel
theorem dX5_annul_20 : decode cX5_annul 20 = .ok (.iconst 1, 1) := by decide +kernel
theorem dX5_annul_21 : decode cX5_annul 21 = .ok (.goto 4, 3) := by decide +kernel
theorem dX5_annul_24 : decode cX5_annul 24 = .ok (.iconst 0, 1) := by decide +kernel
theorem dX5_annul_25 : decode cX5_annul 25 = .ok (.iconst 2, 1) := by decide +kernel
theorem dX5_annul_26 : decode cX5_annul 26 = .ok (.invokevirtual 86, 3) := by decide +kernel
theorem dX5_annul_29 : decode cX5_annul 29 = .ok (.ifCond .eq 5, 3) := by decide +kernel
theorem dX5_annul_32 : decode cX5_annul 32 = .ok (.iconst 0, 1) := by decide +kernel
theorem dX5_annul_33 : decode cX5_annul 33 = .ok (.ireturn, 1) := by decide +kernel
theorem dX5_annul_34 : decode cX5_annul 34 = .ok (.aload_n 0, 1) := by decide +kernel
theorem dX5_annul_35 : decode cX5_annul 35 = .ok (.getfield 63, 3) := by decide +kernel
theorem dX5_annul_38 : decode cX5_annul 38 = .ok (.iload_n 1, 1) := by decide +kernel
theorem dX5_annul_39 : decode cX5_annul 39 = .ok (.bipush 110, 2) := by decide +kernel
theorem dX5_annul_41 : decode cX5_annul 41 = .ok (.castore, 1) := by decide +kernel
theorem dX5_annul_42 : decode cX5_annul 42 = .ok (.iconst 0, 1) := by decide +kernel
theorem dX5_annul_43 : decode cX5_annul 43 = .ok (.istore_n 2, 1) := by decide +kernel
theorem dX5_annul_44 : decode cX5_annul 44 = .ok (.iconst 0, 1) := by decide +kernel
theorem dX5_annul_45 : decode cX5_annul 45 = .ok (.istore_n 3, 1) := by decide +kernel
theorem dX5_annul_46 : decode cX5_annul 46 = .ok (.iload_n 3, 1) := by decide +kernel
theorem dX5_annul_47 : decode cX5_annul 47 = .ok (.aload_n 0, 1) := by decide +kernel
theorem dX5_annul_48 : decode cX5_annul 48 = .ok (.getfield 90, 3) := by decide +kernel
theorem dX5_annul_51 : decode cX5_annul 51 = .ok (.if_icmp .ge 28, 3) := by decide +kernel
theorem dX5_annul_54 : decode cX5_annul 54 = .ok (.iload_n 2, 1) := by decide +kernel
theorem dX5_annul_55 : decode cX5_annul 55 = .ok (.aload_n 0, 1) := by decide +kernel
theorem dX5_annul_56 : decode cX5_annul 56 = .ok (.getfield 63, 3) := by decide +kernel
theorem dX5_annul_59 : decode cX5_annul 59 = .ok (.iload_n 3, 1) := by decide +kernel
theorem dX5_annul_60 : decode cX5_annul 60 = .ok (.caload, 1) := by decide +kernel
theorem dX5_annul_61 : decode cX5_annul 61 = .ok (.bipush 119, 2) := by decide +kernel
theorem dX5_annul_63 : decode cX5_annul 63 = .ok (.if_icmp .ne 7, 3) := by decide +kernel
theorem dX5_annul_66 : decode cX5_annul 66 = .ok (.iconst 1, 1) := by decide +kernel
theorem dX5_annul_67 : decode cX5_annul 67 = .ok (.goto 4, 3) := by decide +kernel
theorem dX5_annul_70 : decode cX5_annul 70 = .ok (.iconst 0, 1) := by decide +kernel
theorem dX5_annul_71 : decode cX5_annul 71 = .ok (.iadd, 1) := by decide +kernel
theorem dX5_annul_72 : decode cX5_annul 72 = .ok (.istore_n 2, 1) := by decide +kernel
theorem dX5_annul_73 : decode cX5_annul 73 = .ok (.iinc 3 1, 3) := by decide +kernel
theorem dX5_annul_76 : decode cX5_annul 76 = .ok (.goto (-30), 3) := by decide +kernel
theorem dX5_annul_79 : decode cX5_annul 79 = .ok (.iload_n 2, 1) := by decide +kernel
theorem dX5_annul_80 : decode cX5_annul 80 = .ok (.ireturn, 1) := by decide +kernel
theorem dX5_status_0 : decode cX5_status 0 = .ok (.aload_n 0, 1) := by decide +kernel
theorem dX5_status_1 : decode cX5_status 1 = .ok (.iload_n 1, 1) := by decide +kernel
theorem dX5_status_2 : decode cX5_status 2 = .ok (.invokevirtual 167, 3) := by decide +kernel
theorem dX5_status_5 : decode cX5_status 5 = .ok (.ifCond .eq 8, 3) := by decide +kernel
theorem dX5_status_8 : decode cX5_status 8 = .ok (.bipush 45, 2) := by decide +kernel
theorem dX5_status_10 : decode cX5_status 10 = .ok (.goto 9, 3) := by decide +kernel
theorem dX5_status_13 : decode cX5_status 13 = .ok (.aload_n 0, 1) := by decide +kernel
theorem dX5_status_14 : decode cX5_status 14 = .ok (.getfield 63, 3) := by decide +kernel
theorem dX5_status_17 : decode cX5_status 17 = .ok (.iload_n 1, 1) := by decide +kernel
theorem dX5_status_18 : decode cX5_status 18 = .ok (.caload, 1) := by decide +kernel
theorem dX5_status_19 : decode cX5_status 19 = .ok (.ireturn, 1) := by decide +kernel
theorem dX5_sum_0 : decode cX5_sum 0 = .ok (.aload_n 0, 1) := by decide +kernel
theorem dX5_sum_1 : decode cX5_sum 1 = .ok (.iload_n 1, 1) := by decide +kernel
theorem dX5_sum_2 : decode cX5_sum 2 = .ok (.invokevirtual 167, 3) := by decide +kernel
theorem dX5_sum_5 : decode cX5_sum 5 = .ok (.ifCond .eq 7, 3) := by decide +kernel
theorem dX5_sum_8 : decode cX5_sum 8 = .ok (.iconst 0, 1) := by decide +kernel
theorem dX5_sum_9 : decode cX5_sum 9 = .ok (.goto 9, 3) := by decide +kernel
theorem dX5_sum_12 : decode cX5_sum 12 = .ok (.aload_n 0, 1) := by decide +kernel
theorem dX5_sum_13 : decode cX5_sum 13 = .ok (.getfield 54, 3) := by decide +kernel
theorem dX5_sum_16 : decode cX5_sum 16 = .ok (.iload_n 1, 1) := by decide +kernel
theorem dX5_sum_17 : decode cX5_sum 17 = .ok (.iaload, 1) := by decide +kernel
theorem dX5_sum_18 : decode cX5_sum 18 = .ok (.ireturn, 1) := by decide +kernel
theorem dX5_sumByPapers_0 : decode cX5_sumByPapers 0 = .ok (.aload_n 0, 1) := by decide +kernel
theorem dX5_sumByPapers_1 : decode cX5_sumByPapers 1 = .ok (.iload_n 1, 1) := by decide +kernel
theorem dX5_sumByPapers_2 : decode cX5_sumByPapers 2 = .ok (.invokevirtual 169, 3) := by decide +kernel
theorem dX5_sumByPapers_5 : decode cX5_sumByPapers 5 = .ok (.ireturn, 1) := by decide +kernel
theorem dX5_isGood_0 : decode cX5_isGood 0 = .ok (.aload_n 0, 1) := by decide +kernel
theorem dX5_isGood_1 : decode cX5_isGood 1 = .ok (.getfield 63, 3) := by decide +kernel
theorem dX5_isGood_4 : decode cX5_isGood 4 = .ok (.iload_n 1, 1) := by decide +kernel
theorem dX5_isGood_5 : decode cX5_isGood 5 = .ok (.caload, 1) := by decide +kernel
theorem dX5_isGood_6 : decode cX5_isGood 6 = .ok (.bipush 115, 2) := by decide +kernel
theorem dX5_isGood_8 : decode cX5_isGood 8 = .ok (.if_icmp .eq 14, 3) := by decide +kernel
theorem dX5_isGood_11 : decode cX5_isGood 11 = .ok (.aload_n 0, 1) := by decide +kernel
theorem dX5_isGood_12 : decode cX5_isGood 12 = .ok (.getfield 63, 3) := by decide +kernel
theorem dX5_isGood_15 : decode cX5_isGood 15 = .ok (.iload_n 1, 1) := by decide +kernel
theorem dX5_isGood_16 : decode cX5_isGood 16 = .ok (.caload, 1) := by decide +kernel
theorem dX5_isGood_17 : decode cX5_isGood 17 = .ok (.bipush 114, 2) := by decide +kernel
theorem dX5_isGood_19 : decode cX5_isGood 19 = .ok (.if_icmp .ne 7, 3) := by decide +kernel
theorem dX5_isGood_22 : decode cX5_isGood 22 = .ok (.iconst 1, 1) := by decide +kernel
theorem dX5_isGood_23 : decode cX5_isGood 23 = .ok (.goto 4, 3) := by decide +kernel
theorem dX5_isGood_26 : decode cX5_isGood 26 = .ok (.iconst 0, 1) := by decide +kernel
theorem dX5_isGood_27 : decode cX5_isGood 27 = .ok (.ireturn, 1) := by decide +kernel
theorem dX5_stands_0 : decode cX5_stands 0 = .ok (.aload_n 0, 1) := by decide +kernel
theorem dX5_stands_1 : decode cX5_stands 1 = .ok (.iload_n 1, 1) := by decide +kernel
theorem dX5_stands_2 : decode cX5_stands 2 = .ok (.invokevirtual 167, 3) := by decide +kernel
theorem dX5_stands_5 : decode cX5_stands 5 = .ok (.ifCond .ne 15, 3) := by decide +kernel
theorem dX5_stands_8 : decode cX5_stands 8 = .ok (.aload_n 0, 1) := by decide +kernel
theorem dX5_stands_9 : decode cX5_stands 9 = .ok (.iload_n 1, 1) := by decide +kernel
theorem dX5_stands_10 : decode cX5_stands 10 = .ok (.invokevirtual 172, 3) := by decide +kernel
theorem dX5_stands_13 : decode cX5_stands 13 = .ok (.ifCond .eq 7, 3) := by decide +kernel
theorem dX5_stands_16 : decode cX5_stands 16 = .ok (.iconst 1, 1) := by decide +kernel
theorem dX5_stands_17 : decode cX5_stands 17 = .ok (.goto 4, 3) := by decide +kernel
theorem dX5_stands_20 : decode cX5_stands 20 = .ok (.iconst 0, 1) := by decide +kernel
theorem dX5_stands_21 : decode cX5_stands 21 = .ok (.ireturn, 1) := by decide +kernel
theorem dX5_standsByPapers_0 : decode cX5_standsByPapers 0 = .ok (.aload_n 0, 1) := by decide +kernel
theorem dX5_standsByPapers_1 : decode cX5_standsByPapers 1 = .ok (.iload_n 1, 1) := by decide +kernel
theorem dX5_standsByPapers_2 : decode cX5_standsByPapers 2 = .ok (.invokevirtual 175, 3) := by decide +kernel
theorem dX5_standsByPapers_5 : decode cX5_standsByPapers 5 = .ok (.ireturn, 1) := by decide +kernel
theorem dX5_lack_0 : decode cX5_lack 0 = .ok (.aload_n 0, 1) := by decide +kernel
theorem dX5_lack_1 : decode cX5_lack 1 = .ok (.iload_n 1, 1) := by decide +kernel
theorem dX5_lack_2 : decode cX5_lack 2 = .ok (.invokevirtual 167, 3) := by decide +kernel
theorem dX5_lack_5 : decode cX5_lack 5 = .ok (.ifCond .ne 27, 3) := by decide +kernel
theorem dX5_lack_8 : decode cX5_lack 8 = .ok (.aload_n 0, 1) := by decide +kernel
theorem dX5_lack_9 : decode cX5_lack 9 = .ok (.aload_n 0, 1) := by decide +kernel
theorem dX5_lack_10 : decode cX5_lack 10 = .ok (.getfield 63, 3) := by decide +kernel
theorem dX5_lack_13 : decode cX5_lack 13 = .ok (.iload_n 1, 1) := by decide +kernel
theorem dX5_lack_14 : decode cX5_lack 14 = .ok (.caload, 1) := by decide +kernel
theorem dX5_lack_15 : decode cX5_lack 15 = .ok (.bipush 115, 2) := by decide +kernel
theorem dX5_lack_17 : decode cX5_lack 17 = .ok (.if_icmp .ne 7, 3) := by decide +kernel
theorem dX5_lack_20 : decode cX5_lack 20 = .ok (.iconst 1, 1) := by decide +kernel
theorem dX5_lack_21 : decode cX5_lack 21 = .ok (.goto 4, 3) := by decide +kernel
theorem dX5_lack_24 : decode cX5_lack 24 = .ok (.iconst 0, 1) := by decide +kernel
theorem dX5_lack_25 : decode cX5_lack 25 = .ok (.iconst 2, 1) := by decide +kernel
theorem dX5_lack_26 : decode cX5_lack 26 = .ok (.invokevirtual 86, 3) := by decide +kernel
theorem dX5_lack_29 : decode cX5_lack 29 = .ok (.ifCond .eq 8, 3) := by decide +kernel
theorem dX5_lack_32 : decode cX5_lack 32 = .ok (.bipush 45, 2) := by decide +kernel
theorem dX5_lack_34 : decode cX5_lack 34 = .ok (.goto 9, 3) := by decide +kernel
theorem dX5_lack_37 : decode cX5_lack 37 = .ok (.aload_n 0, 1) := by decide +kernel
theorem dX5_lack_38 : decode cX5_lack 38 = .ok (.getfield 66, 3) := by decide +kernel
theorem dX5_lack_41 : decode cX5_lack 41 = .ok (.iload_n 1, 1) := by decide +kernel
theorem dX5_lack_42 : decode cX5_lack 42 = .ok (.caload, 1) := by decide +kernel
theorem dX5_lack_43 : decode cX5_lack 43 = .ok (.ireturn, 1) := by decide +kernel
theorem dX5_lackPower_0 : decode cX5_lackPower 0 = .ok (.aload_n 0, 1) := by decide +kernel
theorem dX5_lackPower_1 : decode cX5_lackPower 1 = .ok (.iload_n 1, 1) := by decide +kernel
theorem dX5_lackPower_2 : decode cX5_lackPower 2 = .ok (.invokevirtual 167, 3) := by decide +kernel
theorem dX5_lackPower_5 : decode cX5_lackPower 5 = .ok (.ifCond .ne 36, 3) := by decide +kernel
theorem dX5_lackPower_8 : decode cX5_lackPower 8 = .ok (.aload_n 0, 1) := by decide +kernel
theorem dX5_lackPower_9 : decode cX5_lackPower 9 = .ok (.aload_n 0, 1) := by decide +kernel
theorem dX5_lackPower_10 : decode cX5_lackPower 10 = .ok (.getfield 63, 3) := by decide +kernel
theorem dX5_lackPower_13 : decode cX5_lackPower 13 = .ok (.iload_n 1, 1) := by decide +kernel
theorem dX5_lackPower_14 : decode cX5_lackPower 14 = .ok (.caload, 1) := by decide +kernel
theorem dX5_lackPower_15 : decode cX5_lackPower 15 = .ok (.bipush 115, 2) := by decide +kernel
theorem dX5_lackPower_17 : decode cX5_lackPower 17 = .ok (.if_icmp .eq 12, 3) := by decide +kernel
theorem dX5_lackPower_20 : decode cX5_lackPower 20 = .ok (.aload_n 0, 1) := by decide +kernel
theorem dX5_lackPower_21 : decode cX5_lackPower 21 = .ok (.getfield 57, 3) := by decide +kernel
theorem dX5_lackPower_24 : decode cX5_lackPower 24 = .ok (.iload_n 1, 1) := by decide +kernel
theorem dX5_lackPower_25 : decode cX5_lackPower 25 = .ok (.iaload, 1) := by decide +kernel
theorem dX5_lackPower_26 : decode cX5_lackPower 26 = .ok (.ifCond .ge 7, 3) := by decide +kernel
theorem dX5_lackPower_29 : decode cX5_lackPower 29 = .ok (.iconst 1, 1) := by decide +kernel
theorem dX5_lackPower_30 : decode cX5_lackPower 30 = .ok (.goto 4, 3) := by decide +kernel
theorem dX5_lackPower_33 : decode cX5_lackPower 33 = .ok (.iconst 0, 1) := by decide +kernel
theorem dX5_lackPower_34 : decode cX5_lackPower 34 = .ok (.iconst 2, 1) := by decide +kernel
theorem dX5_lackPower_35 : decode cX5_lackPower 35 = .ok (.invokevirtual 86, 3) := by decide +kernel
theorem dX5_lackPower_38 : decode cX5_lackPower 38 = .ok (.ifCond .eq 7, 3) := by decide +kernel
theorem dX5_lackPower_41 : decode cX5_lackPower 41 = .ok (.iconst 0, 1) := by decide +kernel
theorem dX5_lackPower_42 : decode cX5_lackPower 42 = .ok (.goto 9, 3) := by decide +kernel
theorem dX5_lackPower_45 : decode cX5_lackPower 45 = .ok (.aload_n 0, 1) := by decide +kernel
theorem dX5_lackPower_46 : decode cX5_lackPower 46 = .ok (.getfield 57, 3) := by decide +kernel
theorem dX5_lackPower_49 : decode cX5_lackPower 49 = .ok (.iload_n 1, 1) := by decide +kernel
theorem dX5_lackPower_50 : decode cX5_lackPower 50 = .ok (.iaload, 1) := by decide +kernel
theorem dX5_lackPower_51 : decode cX5_lackPower 51 = .ok (.ireturn, 1) := by decide +kernel
theorem dX5_lackDepth_0 : decode cX5_lackDepth 0 = .ok (.aload_n 0, 1) := by decide +kernel
theorem dX5_lackDepth_1 : decode cX5_lackDepth 1 = .ok (.iload_n 1, 1) := by decide +kernel
theorem dX5_lackDepth_2 : decode cX5_lackDepth 2 = .ok (.invokevirtual 167, 3) := by decide +kernel
theorem dX5_lackDepth_5 : decode cX5_lackDepth 5 = .ok (.ifCond .ne 36, 3) := by decide +kernel
theorem dX5_lackDepth_8 : decode cX5_lackDepth 8 = .ok (.aload_n 0, 1) := by decide +kernel
theorem dX5_lackDepth_9 : decode cX5_lackDepth 9 = .ok (.aload_n 0, 1) := by decide +kernel
theorem dX5_lackDepth_10 : decode cX5_lackDepth 10 = .ok (.getfield 63, 3) := by decide +kernel
theorem dX5_lackDepth_13 : decode cX5_lackDepth 13 = .ok (.iload_n 1, 1) := by decide +kernel
theorem dX5_lackDepth_14 : decode cX5_lackDepth 14 = .ok (.caload, 1) := by decide +kernel
theorem dX5_lackDepth_15 : decode cX5_lackDepth 15 = .ok (.bipush 115, 2) := by decide +kernel
theorem dX5_lackDepth_17 : decode cX5_lackDepth 17 = .ok (.if_icmp .eq 12, 3) := by decide +kernel
theorem dX5_lackDepth_20 : decode cX5_lackDepth 20 = .ok (.aload_n 0, 1) := by decide +kernel
theorem dX5_lackDepth_21 : decode cX5_lackDepth 21 = .ok (.getfield 57, 3) := by decide +kernel
theorem dX5_lackDepth_24 : decode cX5_lackDepth 24 = .ok (.iload_n 1, 1) := by decide +kernel
theorem dX5_lackDepth_25 : decode cX5_lackDepth 25 = .ok (.iaload, 1) := by decide +kernel
theorem dX5_lackDepth_26 : decode cX5_lackDepth 26 = .ok (.ifCond .ge 7, 3) := by decide +kernel
theorem dX5_lackDepth_29 : decode cX5_lackDepth 29 = .ok (.iconst 1, 1) := by decide +kernel
theorem dX5_lackDepth_30 : decode cX5_lackDepth 30 = .ok (.goto 4, 3) := by decide +kernel
theorem dX5_lackDepth_33 : decode cX5_lackDepth 33 = .ok (.iconst 0, 1) := by decide +kernel
theorem dX5_lackDepth_34 : decode cX5_lackDepth 34 = .ok (.iconst 2, 1) := by decide +kernel
theorem dX5_lackDepth_35 : decode cX5_lackDepth 35 = .ok (.invokevirtual 86, 3) := by decide +kernel
theorem dX5_lackDepth_38 : decode cX5_lackDepth 38 = .ok (.ifCond .eq 7, 3) := by decide +kernel
theorem dX5_lackDepth_41 : decode cX5_lackDepth 41 = .ok (.iconst 0, 1) := by decide +kernel
theorem dX5_lackDepth_42 : decode cX5_lackDepth 42 = .ok (.goto 9, 3) := by decide +kernel
theorem dX5_lackDepth_45 : decode cX5_lackDepth 45 = .ok (.aload_n 0, 1) := by decide +kernel
theorem dX5_lackDepth_46 : decode cX5_lackDepth 46 = .ok (.getfield 60, 3) := by decide +kernel
theorem dX5_lackDepth_49 : decode cX5_lackDepth 49 = .ok (.iload_n 1, 1) := by decide +kernel
theorem dX5_lackDepth_50 : decode cX5_lackDepth 50 = .ok (.iaload, 1) := by decide +kernel
theorem dX5_lackDepth_51 : decode cX5_lackDepth 51 = .ok (.ireturn, 1) := by decide +kernel
theorem dX5_setWindow_0 : decode cX5_setWindow 0 = .ok (.aload_n 0, 1) := by decide +kernel
theorem dX5_setWindow_1 : decode cX5_setWindow 1 = .ok (.iload_n 1, 1) := by decide +kernel
theorem dX5_setWindow_2 : decode cX5_setWindow 2 = .ok (.iconst 1, 1) := by decide +kernel
theorem dX5_setWindow_3 : decode cX5_setWindow 3 = .ok (.bipush 99, 2) := by decide +kernel
theorem dX5_setWindow_5 : decode cX5_setWindow 5 = .ok (.invokestatic 79, 3) := by decide +kernel
theorem dX5_setWindow_8 : decode cX5_setWindow 8 = .ok (.ifCond .ne 7, 3) := by decide +kernel
theorem dX5_setWindow_11 : decode cX5_setWindow 11 = .ok (.iconst 1, 1) := by decide +kernel
theorem dX5_setWindow_12 : decode cX5_setWindow 12 = .ok (.goto 4, 3) := by decide +kernel
theorem dX5_setWindow_15 : decode cX5_setWindow 15 = .ok (.iconst 0, 1) := by decide +kernel
theorem dX5_setWindow_16 : decode cX5_setWindow 16 = .ok (.iconst 1, 1) := by decide +kernel
theorem dX5_setWindow_17 : decode cX5_setWindow 17 = .ok (.invokevirtual 86, 3) := by decide +kernel
theorem dX5_setWindow_20 : decode cX5_setWindow 20 = .ok (.ifCond .eq 5, 3) := by decide +kernel
theorem dX5_setWindow_23 : decode cX5_setWindow 23 = .ok (.iconst 0, 1) := by decide +kernel
theorem dX5_setWindow_24 : decode cX5_setWindow 24 = .ok (.ireturn, 1) := by decide +kernel
theorem dX5_setWindow_25 : decode cX5_setWindow 25 = .ok (.aload_n 0, 1) := by decide +kernel
theorem dX5_setWindow_26 : decode cX5_setWindow 26 = .ok (.getfield 69, 3) := by decide +kernel
theorem dX5_setWindow_29 : decode cX5_setWindow 29 = .ok (.istore_n 2, 1) := by decide +kernel
theorem dX5_setWindow_30 : decode cX5_setWindow 30 = .ok (.aload_n 0, 1) := by decide +kernel
theorem dX5_setWindow_31 : decode cX5_setWindow 31 = .ok (.iload_n 1, 1) := by decide +kernel
theorem dX5_setWindow_32 : decode cX5_setWindow 32 = .ok (.putfield 69, 3) := by decide +kernel
theorem dX5_setWindow_35 : decode cX5_setWindow 35 = .ok (.iload_n 2, 1) := by decide +kernel
theorem dX5_setWindow_36 : decode cX5_setWindow 36 = .ok (.ireturn, 1) := by decide +kernel
theorem dX5_pass_0 : decode cX5_pass 0 = .ok (.aload_n 0, 1) := by decide +kernel
theorem dX5_pass_1 : decode cX5_pass 1 = .ok (.iload_n 1, 1) := by decide +kernel
theorem dX5_pass_2 : decode cX5_pass 2 = .ok (.iconst 1, 1) := by decide +kernel
theorem dX5_pass_3 : decode cX5_pass 3 = .ok (.bipush 99, 2) := by decide +kernel
theorem dX5_pass_5 : decode cX5_pass 5 = .ok (.invokestatic 79, 3) := by decide +kernel
theorem dX5_pass_8 : decode cX5_pass 8 = .ok (.ifCond .eq 15, 3) := by decide +kernel
theorem dX5_pass_11 : decode cX5_pass 11 = .ok (.aload_n 0, 1) := by decide +kernel
theorem dX5_pass_12 : decode cX5_pass 12 = .ok (.getfield 122, 3) := by decide +kernel
theorem dX5_pass_15 : decode cX5_pass 15 = .ok (.iload_n 1, 1) := by decide +kernel
theorem dX5_pass_16 : decode cX5_pass 16 = .ok (.iadd, 1) := by decide +kernel
theorem dX5_pass_17 : decode cX5_pass 17 = .ok (.sipush 999, 3) := by decide +kernel
theorem dX5_pass_20 : decode cX5_pass 20 = .ok (.if_icmp .le 7, 3) := by decide +kernel
theorem dX5_pass_23 : decode cX5_pass 23 = .ok (.iconst 1, 1) := by decide +kernel
theorem dX5_pass_24 : decode cX5_pass 24 = .ok (.goto 4, 3) := by decide +kernel
theorem dX5_pass_27 : decode cX5_pass 27 = .ok (.iconst 0, 1) := by decide +kernel
theorem dX5_pass_28 : decode cX5_pass 28 = .ok (.iconst 1, 1) := by decide +kernel
theorem dX5_pass_29 : decode cX5_pass 29 = .ok (.invokevirtual 86, 3) := by decide +kernel
theorem dX5_pass_32 : decode cX5_pass 32 = .ok (.ifCond .eq 5, 3) := by decide +kernel
theorem dX5_pass_35 : decode cX5_pass 35 = .ok (.iconst 0, 1) := by decide +kernel
theorem dX5_pass_36 : decode cX5_pass 36 = .ok (.ireturn, 1) := by decide +kernel
theorem dX5_pass_37 : decode cX5_pass 37 = .ok (.aload_n 0, 1) := by decide +kernel
theorem dX5_pass_38 : decode cX5_pass 38 = .ok (.dup, 1) := by decide +kernel
theorem dX5_pass_39 : decode cX5_pass 39 = .ok (.getfield 122, 3) := by decide +kernel
theorem dX5_pass_42 : decode cX5_pass 42 = .ok (.iload_n 1, 1) := by decide +kernel
theorem dX5_pass_43 : decode cX5_pass 43 = .ok (.iadd, 1) := by decide +kernel
theorem dX5_pass_44 : decode cX5_pass 44 = .ok (.putfield 122, 3) := by decide +kernel
theorem dX5_pass_47 : decode cX5_pass 47 = .ok (.aload_n 0, 1) := by decide +kernel
theorem dX5_pass_48 : decode cX5_pass 48 = .ok (.getfield 122, 3) := by decide +kernel
theorem dX5_pass_51 : decode cX5_pass 51 = .ok (.ireturn, 1) := by decide +kernel
theorem dX5_today_0 : decode cX5_today 0 = .ok (.aload_n 0, 1) := by decide +kernel
theorem dX5_today_1 : decode cX5_today 1 = .ok (.iconst 0, 1) := by decide +kernel
theorem dX5_today_2 : decode cX5_today 2 = .ok (.putfield 73, 3) := by decide +kernel
theorem dX5_today_5 : decode cX5_today 5 = .ok (.aload_n 0, 1) := by decide +kernel
theorem dX5_today_6 : decode cX5_today 6 = .ok (.getfield 122, 3) := by decide +kernel
theorem dX5_today_9 : decode cX5_today 9 = .ok (.ireturn, 1) := by decide +kernel
theorem dX5_bound_0 : decode cX5_bound 0 = .ok (.aload_n 0, 1) := by decide +kernel
theorem dX5_bound_1 : decode cX5_bound 1 = .ok (.iconst 0, 1) := by decide +kernel
theorem dX5_bound_2 : decode cX5_bound 2 = .ok (.putfield 73, 3) := by decide +kernel
theorem dX5_bound_5 : decode cX5_bound 5 = .ok (.lconst 0, 1) := by decide +kernel
theorem dX5_bound_6 : decode cX5_bound 6 = .ok (.lstore_n 1, 1) := by decide +kernel
theorem dX5_bound_7 : decode cX5_bound 7 = .ok (.iconst 0, 1) := by decide +kernel
theorem dX5_bound_8 : decode cX5_bound 8 = .ok (.istore_n 3, 1) := by decide +kernel
theorem dX5_bound_9 : decode cX5_bound 9 = .ok (.iload_n 3, 1) := by decide +kernel
theorem dX5_bound_10 : decode cX5_bound 10 = .ok (.aload_n 0, 1) := by decide +kernel
theorem dX5_bound_11 : decode cX5_bound 11 = .ok (.getfield 90, 3) := by decide +kernel
theorem dX5_bound_14 : decode cX5_bound 14 = .ok (.if_icmp .ge 31, 3) := by decide +kernel
theorem dX5_bound_17 : decode cX5_bound 17 = .ok (.lload_n 1, 1) := by decide +kernel
theorem dX5_bound_18 : decode cX5_bound 18 = .ok (.aload_n 0, 1) := by decide +kernel
theorem dX5_bound_19 : decode cX5_bound 19 = .ok (.iload_n 3, 1) := by decide +kernel
theorem dX5_bound_20 : decode cX5_bound 20 = .ok (.invokevirtual 172, 3) := by decide +kernel
theorem dX5_bound_23 : decode cX5_bound 23 = .ok (.ifCond .eq 13, 3) := by decide +kernel
theorem dX5_bound_26 : decode cX5_bound 26 = .ok (.aload_n 0, 1) := by decide +kernel
theorem dX5_bound_27 : decode cX5_bound 27 = .ok (.getfield 45, 3) := by decide +kernel
theorem dX5_bound_30 : decode cX5_bound 30 = .ok (.iload_n 3, 1) := by decide +kernel
theorem dX5_bound_31 : decode cX5_bound 31 = .ok (.iaload, 1) := by decide +kernel
theorem dX5_bound_32 : decode cX5_bound 32 = .ok (.i2l, 1) := by decide +kernel
theorem dX5_bound_33 : decode cX5_bound 33 = .ok (.goto 4, 3) := by decide +kernel
theorem dX5_bound_36 : decode cX5_bound 36 = .ok (.lconst 0, 1) := by decide +kernel
theorem dX5_bound_37 : decode cX5_bound 37 = .ok (.ladd, 1) := by decide +kernel
theorem dX5_bound_38 : decode cX5_bound 38 = .ok (.lstore_n 1, 1) := by decide +kernel
theorem dX5_bound_39 : decode cX5_bound 39 = .ok (.iinc 3 1, 3) := by decide +kernel
theorem dX5_bound_42 : decode cX5_bound 42 = .ok (.goto (-33), 3) := by decide +kernel
theorem dX5_bound_45 : decode cX5_bound 45 = .ok (.lload_n 1, 1) := by decide +kernel
theorem dX5_bound_46 : decode cX5_bound 46 = .ok (.lreturn, 1) := by decide +kernel
theorem dX5_standingShare_0 : decode cX5_standingShare 0 = .ok (.iconst 0, 1) := by decide +kernel
theorem dX5_standingShare_1 : decode cX5_standingShare 1 = .ok (.istore_n 1, 1) := by decide +kernel
theorem dX5_standingShare_2 : decode cX5_standingShare 2 = .ok (.iconst 0, 1) := by decide +kernel
theorem dX5_standingShare_3 : decode cX5_standingShare 3 = .ok (.istore_n 2, 1) := by decide +kernel
theorem dX5_standingShare_4 : decode cX5_standingShare 4 = .ok (.iload_n 2, 1) := by decide +kernel
theorem dX5_standingShare_5 : decode cX5_standingShare 5 = .ok (.aload_n 0, 1) := by decide +kernel
theorem dX5_standingShare_6 : decode cX5_standingShare 6 = .ok (.getfield 90, 3) := by decide +kernel
theorem dX5_standingShare_9 : decode cX5_standingShare 9 = .ok (.if_icmp .ge 25, 3) := by decide +kernel
theorem dX5_standingShare_12 : decode cX5_standingShare 12 = .ok (.iload_n 1, 1) := by decide +kernel
theorem dX5_standingShare_13 : decode cX5_standingShare 13 = .ok (.aload_n 0, 1) := by decide +kernel
theorem dX5_standingShare_14 : decode cX5_standingShare 14 = .ok (.iload_n 2, 1) := by decide +kernel
theorem dX5_standingShare_15 : decode cX5_standingShare 15 = .ok (.invokevirtual 172, 3) := by decide +kernel
theorem dX5_standingShare_18 : decode cX5_standingShare 18 = .ok (.ifCond .eq 7, 3) := by decide +kernel
theorem dX5_standingShare_21 : decode cX5_standingShare 21 = .ok (.iconst 1, 1) := by decide +kernel
theorem dX5_standingShare_22 : decode cX5_standingShare 22 = .ok (.goto 4, 3) := by decide +kernel
theorem dX5_standingShare_25 : decode cX5_standingShare 25 = .ok (.iconst 0, 1) := by decide +kernel
theorem dX5_standingShare_26 : decode cX5_standingShare 26 = .ok (.iadd, 1) := by decide +kernel
theorem dX5_standingShare_27 : decode cX5_standingShare 27 = .ok (.istore_n 1, 1) := by decide +kernel
theorem dX5_standingShare_28 : decode cX5_standingShare 28 = .ok (.iinc 2 1, 3) := by decide +kernel
theorem dX5_standingShare_31 : decode cX5_standingShare 31 = .ok (.goto (-27), 3) := by decide +kernel
theorem dX5_standingShare_34 : decode cX5_standingShare 34 = .ok (.aload_n 0, 1) := by decide +kernel
theorem dX5_standingShare_35 : decode cX5_standingShare 35 = .ok (.aload_n 0, 1) := by decide +kernel
theorem dX5_standingShare_36 : decode cX5_standingShare 36 = .ok (.getfield 90, 3) := by decide +kernel
theorem dX5_standingShare_39 : decode cX5_standingShare 39 = .ok (.ifCond .ne 7, 3) := by decide +kernel
theorem dX5_standingShare_42 : decode cX5_standingShare 42 = .ok (.iconst 1, 1) := by decide +kernel
theorem dX5_standingShare_43 : decode cX5_standingShare 43 = .ok (.goto 4, 3) := by decide +kernel
theorem dX5_standingShare_46 : decode cX5_standingShare 46 = .ok (.iconst 0, 1) := by decide +kernel
theorem dX5_standingShare_47 : decode cX5_standingShare 47 = .ok (.iconst 1, 1) := by decide +kernel
theorem dX5_standingShare_48 : decode cX5_standingShare 48 = .ok (.invokevirtual 86, 3) := by decide +kernel
theorem dX5_standingShare_51 : decode cX5_standingShare 51 = .ok (.ifCond .eq 7, 3) := by decide +kernel
theorem dX5_standingShare_54 : decode cX5_standingShare 54 = .ok (.fconst 0, 1) := by decide +kernel
theorem dX5_standingShare_55 : decode cX5_standingShare 55 = .ok (.goto 11, 3) := by decide +kernel
theorem dX5_standingShare_58 : decode cX5_standingShare 58 = .ok (.iload_n 1, 1) := by decide +kernel
theorem dX5_standingShare_59 : decode cX5_standingShare 59 = .ok (.i2f, 1) := by decide +kernel
theorem dX5_standingShare_60 : decode cX5_standingShare 60 = .ok (.aload_n 0, 1) := by decide +kernel
theorem dX5_standingShare_61 : decode cX5_standingShare 61 = .ok (.getfield 90, 3) := by decide +kernel
theorem dX5_standingShare_64 : decode cX5_standingShare 64 = .ok (.i2f, 1) := by decide +kernel
theorem dX5_standingShare_65 : decode cX5_standingShare 65 = .ok (.fdiv, 1) := by decide +kernel
theorem dX5_standingShare_66 : decode cX5_standingShare 66 = .ok (.freturn, 1) := by decide +kernel
theorem dJ11_isValidCodePoint_9a6ad_0 : decode cJ11_isValidCodePoint_9a6ad 0 = .ok (.iload_n 0, 1) := by decide +kernel
theorem dJ11_isValidCodePoint_9a6ad_1 : decode cJ11_isValidCodePoint_9a6ad 1 = .ok (.bipush 16, 2) := by decide +kernel
theorem dJ11_isValidCodePoint_9a6ad_3 : decode cJ11_isValidCodePoint_9a6ad 3 = .ok (.iushr, 1) := by decide +kernel
theorem dJ11_isValidCodePoint_9a6ad_4 : decode cJ11_isValidCodePoint_9a6ad 4 = .ok (.istore_n 1, 1) := by decide +kernel
theorem dJ11_isValidCodePoint_9a6ad_5 : decode cJ11_isValidCodePoint_9a6ad 5 = .ok (.iload_n 1, 1) := by decide +kernel
theorem dJ11_isValidCodePoint_9a6ad_6 : decode cJ11_isValidCodePoint_9a6ad 6 = .ok (.bipush 17, 2) := by decide +kernel
theorem dJ11_isValidCodePoint_9a6ad_8 : decode cJ11_isValidCodePoint_9a6ad 8 = .ok (.if_icmp .ge 7, 3) := by decide +kernel
theorem dJ11_isValidCodePoint_9a6ad_11 : decode cJ11_isValidCodePoint_9a6ad 11 = .ok (.iconst 1, 1) := by decide +kernel
theorem dJ11_isValidCodePoint_9a6ad_12 : decode cJ11_isValidCodePoint_9a6ad 12 = .ok (.goto 4, 3) := by decide +kernel
theorem dJ11_isValidCodePoint_9a6ad_15 : decode cJ11_isValidCodePoint_9a6ad 15 = .ok (.iconst 0, 1) := by decide +kernel
theorem dJ11_isValidCodePoint_9a6ad_16 : decode cJ11_isValidCodePoint_9a6ad 16 = .ok (.ireturn, 1) := by decide +kernel
theorem dJ11_highSurrogate_5068e_0 : decode cJ11_highSurrogate_5068e 0 = .ok (.iload_n 0, 1) := by decide +kernel
theorem dJ11_highSurrogate_5068e_1 : decode cJ11_highSurrogate_5068e 1 = .ok (.bipush 10, 2) := by decide +kernel
theorem dJ11_highSurrogate_5068e_3 : decode cJ11_highSurrogate_5068e 3 = .ok (.iushr, 1) := by decide +kernel
theorem dJ11_highSurrogate_5068e_4 : decode cJ11_highSurrogate_5068e 4 = .ok (.ldc 110, 2) := by decide +kernel
theorem dJ11_highSurrogate_5068e_6 : decode cJ11_highSurrogate_5068e 6 = .ok (.iadd, 1) := by decide +kernel
theorem dJ11_highSurrogate_5068e_7 : decode cJ11_highSurrogate_5068e 7 = .ok (.i2c, 1) := by decide +kernel
theorem dJ11_highSurrogate_5068e_8 : decode cJ11_highSurrogate_5068e 8 = .ok (.ireturn, 1) := by decide +kernel
theorem dJ11_lowSurrogate_5068e_0 : decode cJ11_lowSurrogate_5068e 0 = .ok (.iload_n 0, 1) := by decide +kernel
theorem dJ11_lowSurrogate_5068e_1 : decode cJ11_lowSurrogate_5068e 1 = .ok (.sipush 1023, 3) := by decide +kernel
theorem dJ11_lowSurrogate_5068e_4 : decode cJ11_lowSurrogate_5068e 4 = .ok (.iand, 1) := by decide +kernel
theorem dJ11_lowSurrogate_5068e_5 : decode cJ11_lowSurrogate_5068e 5 = .ok (.ldc 76, 2) := by decide +kernel
theorem dJ11_lowSurrogate_5068e_7 : decode cJ11_lowSurrogate_5068e 7 = .ok (.iadd, 1) := by decide +kernel
theorem dJ11_lowSurrogate_5068e_8 : decode cJ11_lowSurrogate_5068e 8 = .ok (.i2c, 1) := by decide +kernel
theorem dJ11_lowSurrogate_5068e_9 : decode cJ11_lowSurrogate_5068e 9 = .ok (.ireturn, 1) := by decide +kernel
theorem dJ9_max_7cf53_0 : decode cJ9_max_7cf53 0 = .ok (.iload_n 0, 1) := by decide +kernel
theorem dJ9_max_7cf53_1 : decode cJ9_max_7cf53 1 = .ok (.iload_n 1, 1) := by decide +kernel
theorem dJ9_max_7cf53_2 : decode cJ9_max_7cf53 2 = .ok (.if_icmp .lt 7, 3) := by decide +kernel
theorem dJ9_max_7cf53_5 : decode cJ9_max_7cf53 5 = .ok (.iload_n 0, 1) := by decide +kernel
theorem dJ9_max_7cf53_6 : decode cJ9_max_7cf53 6 = .ok (.goto 4, 3) := by decide +kernel
theorem dJ9_max_7cf53_9 : decode cJ9_max_7cf53 9 = .ok (.iload_n 1, 1) := by decide +kernel
theorem dJ9_max_7cf53_10 : decode cJ9_max_7cf53 10 = .ok (.ireturn, 1) := by decide +kernel
theorem dJ9_min_7cf53_0 : decode cJ9_min_7cf53 0 = .ok (.iload_n 0, 1) := by decide +kernel
theorem dJ9_min_7cf53_1 : decode cJ9_min_7cf53 1 = .ok (.iload_n 1, 1) := by decide +kernel
theorem dJ9_min_7cf53_2 : decode cJ9_min_7cf53 2 = .ok (.if_icmp .gt 7, 3) := by decide +kernel
theorem dJ9_min_7cf53_5 : decode cJ9_min_7cf53 5 = .ok (.iload_n 0, 1) := by decide +kernel
theorem dJ9_min_7cf53_6 : decode cJ9_min_7cf53 6 = .ok (.goto 4, 3) := by decide +kernel
theorem dJ9_min_7cf53_9 : decode cJ9_min_7cf53 9 = .ok (.iload_n 1, 1) := by decide +kernel
theorem dJ9_min_7cf53_10 : decode cJ9_min_7cf53 10 = .ok (.ireturn, 1) := by decide +kernel
theorem dJ0_length_8abf5_0 : decode cJ0_length_8abf5 0 = .ok (.aload_n 0, 1) := by decide +kernel
theorem dJ0_length_8abf5_1 : decode cJ0_length_8abf5 1 = .ok (.getfield 9, 3) := by decide +kernel
theorem dJ0_length_8abf5_4 : decode cJ0_length_8abf5 4 = .ok (.arraylength, 1) := by decide +kernel
theorem dJ0_length_8abf5_5 : decode cJ0_length_8abf5 5 = .ok (.aload_n 0, 1) := by decide +kernel
theorem dJ0_length_8abf5_6 : decode cJ0_length_8abf5 6 = .ok (.invokevirtual 335, 3) := by decide +kernel
theorem dJ0_length_8abf5_9 : decode cJ0_length_8abf5 9 = .ok (.ishr, 1) := by decide +kernel
theorem dJ0_length_8abf5_10 : decode cJ0_length_8abf5 10 = .ok (.ireturn, 1) := by decide +kernel
theorem dJ0_indexOf_0f7a4_0 : decode cJ0_indexOf_0f7a4 0 = .ok (.aload_n 0, 1) := by decide +kernel
theorem dJ0_indexOf_0f7a4_1 : decode cJ0_indexOf_0f7a4 1 = .ok (.iload_n 1, 1) := by decide +kernel
theorem dJ0_indexOf_0f7a4_2 : decode cJ0_indexOf_0f7a4 2 = .ok (.iconst 0, 1) := by decide +kernel
theorem dJ0_indexOf_0f7a4_3 : decode cJ0_indexOf_0f7a4 3 = .ok (.invokevirtual 633, 3) := by decide +kernel
theorem dJ0_indexOf_0f7a4_6 : decode cJ0_indexOf_0f7a4 6 = .ok (.ireturn, 1) := by decide +kernel
theorem dJ0_indexOf_7cf53_0 : decode cJ0_indexOf_7cf53 0 = .ok (.aload_n 0, 1) := by decide +kernel
theorem dJ0_indexOf_7cf53_1 : decode cJ0_indexOf_7cf53 1 = .ok (.invokevirtual 492, 3) := by decide +kernel
theorem dJ0_indexOf_7cf53_4 : decode cJ0_indexOf_7cf53 4 = .ok (.ifCond .eq 19, 3) := by decide +kernel
theorem dJ0_indexOf_7cf53_7 : decode cJ0_indexOf_7cf53 7 = .ok (.aload_n 0, 1) := by decide +kernel
theorem dJ0_indexOf_7cf53_8 : decode cJ0_indexOf_7cf53 8 = .ok (.getfield 9, 3) := by decide +kernel
theorem dJ0_indexOf_7cf53_11 : decode cJ0_indexOf_7cf53 11 = .ok (.iload_n 1, 1) := by decide +kernel
theorem dJ0_indexOf_7cf53_12 : decode cJ0_indexOf_7cf53 12 = .ok (.iload_n 2, 1) := by decide +kernel
theorem dJ0_indexOf_7cf53_13 : decode cJ0_indexOf_7cf53 13 = .ok (.aload_n 0, 1) := by decide +kernel
theorem dJ0_indexOf_7cf53_14 : decode cJ0_indexOf_7cf53 14 = .ok (.invokevirtual 505, 3) := by decide +kernel
theorem dJ0_indexOf_7cf53_17 : decode cJ0_indexOf_7cf53 17 = .ok (.invokestatic 637, 3) := by decide +kernel
theorem dJ0_indexOf_7cf53_20 : decode cJ0_indexOf_7cf53 20 = .ok (.goto 16, 3) := by decide +kernel
theorem dJ0_indexOf_7cf53_23 : decode cJ0_indexOf_7cf53 23 = .ok (.aload_n 0, 1) := by decide +kernel
theorem dJ0_indexOf_7cf53_24 : decode cJ0_indexOf_7cf53 24 = .ok (.getfield 9, 3) := by decide +kernel
theorem dJ0_indexOf_7cf53_27 : decode cJ0_indexOf_7cf53 27 = .ok (.iload_n 1, 1) := by decide +kernel
theorem dJ0_indexOf_7cf53_28 : decode cJ0_indexOf_7cf53 28 = .ok (.iload_n 2, 1) := by decide +kernel
theorem dJ0_indexOf_7cf53_29 : decode cJ0_indexOf_7cf53 29 = .ok (.aload_n 0, 1) := by decide +kernel
theorem dJ0_indexOf_7cf53_30 : decode cJ0_indexOf_7cf53 30 = .ok (.invokevirtual 505, 3) := by decide +kernel
theorem dJ0_indexOf_7cf53_33 : decode cJ0_indexOf_7cf53 33 = .ok (.invokestatic 640, 3) := by decide +kernel
theorem dJ0_indexOf_7cf53_36 : decode cJ0_indexOf_7cf53 36 = .ok (.ireturn, 1) := by decide +kernel
theorem dJ0_coder_7d493_0 : decode cJ0_coder_7d493 0 = .ok (.getstatic 38, 3) := by decide +kernel
theorem dJ0_coder_7d493_3 : decode cJ0_coder_7d493 3 = .ok (.ifCond .eq 10, 3) := by decide +kernel
theorem dJ0_coder_7d493_6 : decode cJ0_coder_7d493 6 = .ok (.aload_n 0, 1) := by decide +kernel
theorem dJ0_coder_7d493_7 : decode cJ0_coder_7d493 7 = .ok (.getfield 15, 3) := by decide +kernel
theorem dJ0_coder_7d493_10 : decode cJ0_coder_7d493 10 = .ok (.goto 4, 3) := by decide +kernel
theorem dJ0_coder_7d493_13 : decode cJ0_coder_7d493 13 = .ok (.iconst 1, 1) := by decide +kernel
theorem dJ0_coder_7d493_14 : decode cJ0_coder_7d493 14 = .ok (.ireturn, 1) := by decide +kernel
theorem dJ0_isLatin1_aae02_0 : decode cJ0_isLatin1_aae02 0 = .ok (.getstatic 38, 3) := by decide +kernel
theorem dJ0_isLatin1_aae02_3 : decode cJ0_isLatin1_aae02 3 = .ok (.ifCond .eq 14, 3) := by decide +kernel
theorem dJ0_isLatin1_aae02_6 : decode cJ0_isLatin1_aae02 6 = .ok (.aload_n 0, 1) := by decide +kernel
theorem dJ0_isLatin1_aae02_7 : decode cJ0_isLatin1_aae02 7 = .ok (.getfield 15, 3) := by decide +kernel
theorem dJ0_isLatin1_aae02_10 : decode cJ0_isLatin1_aae02 10 = .ok (.ifCond .ne 7, 3) := by decide +kernel
theorem dJ0_isLatin1_aae02_13 : decode cJ0_isLatin1_aae02 13 = .ok (.iconst 1, 1) := by decide +kernel
theorem dJ0_isLatin1_aae02_14 : decode cJ0_isLatin1_aae02 14 = .ok (.goto 4, 3) := by decide +kernel
theorem dJ0_isLatin1_aae02_17 : decode cJ0_isLatin1_aae02 17 = .ok (.iconst 0, 1) := by decide +kernel
theorem dJ0_isLatin1_aae02_18 : decode cJ0_isLatin1_aae02 18 = .ok (.ireturn, 1) := by decide +kernel
theorem dJ0_checkBoundsBeginEnd_23922_0 : decode cJ0_checkBoundsBeginEnd_23922 0 = .ok (.iload_n 0, 1) := by decide +kernel
theorem dJ0_checkBoundsBeginEnd_23922_1 : decode cJ0_checkBoundsBeginEnd_23922 1 = .ok (.iload_n 1, 1) := by decide +kernel
theorem dJ0_checkBoundsBeginEnd_23922_2 : decode cJ0_checkBoundsBeginEnd_23922 2 = .ok (.iload_n 2, 1) := by decide +kernel
theorem dJ0_checkBoundsBeginEnd_23922_3 : decode cJ0_checkBoundsBeginEnd_23922 3 = .ok (.getstatic 1053, 3) := by decide +kernel
theorem dJ0_checkBoundsBeginEnd_23922_6 : decode cJ0_checkBoundsBeginEnd_23922 6 = .ok (.invokestatic 1062, 3) := by decide +kernel
theorem dJ0_checkBoundsBeginEnd_23922_9 : decode cJ0_checkBoundsBeginEnd_23922 9 = .ok (.pop, 1) := by decide +kernel
theorem dJ0_checkBoundsBeginEnd_23922_10 : decode cJ0_checkBoundsBeginEnd_23922 10 = .ok (.return_, 1) := by decide +kernel
theorem dJ1_canEncode_9a6ad_0 : decode cJ1_canEncode_9a6ad 0 = .ok (.iload_n 0, 1) := by decide +kernel
theorem dJ1_canEncode_9a6ad_1 : decode cJ1_canEncode_9a6ad 1 = .ok (.ifCond .lt 14, 3) := by decide +kernel
theorem dJ1_canEncode_9a6ad_4 : decode cJ1_canEncode_9a6ad 4 = .ok (.iload_n 0, 1) := by decide +kernel
theorem dJ1_canEncode_9a6ad_5 : decode cJ1_canEncode_9a6ad 5 = .ok (.sipush 255, 3) := by decide +kernel
theorem dJ1_canEncode_9a6ad_8 : decode cJ1_canEncode_9a6ad 8 = .ok (.if_icmp .gt 7, 3) := by decide +kernel
theorem dJ1_canEncode_9a6ad_11 : decode cJ1_canEncode_9a6ad 11 = .ok (.iconst 1, 1) := by decide +kernel
theorem dJ1_canEncode_9a6ad_12 : decode cJ1_canEncode_9a6ad 12 = .ok (.goto 4, 3) := by decide +kernel
theorem dJ1_canEncode_9a6ad_15 : decode cJ1_canEncode_9a6ad 15 = .ok (.iconst 0, 1) := by decide +kernel
theorem dJ1_canEncode_9a6ad_16 : decode cJ1_canEncode_9a6ad 16 = .ok (.ireturn, 1) := by decide +kernel
theorem dJ1_indexOf_4cfef_0 : decode cJ1_indexOf_4cfef 0 = .ok (.iload_n 1, 1) := by decide +kernel
theorem dJ1_indexOf_4cfef_1 : decode cJ1_indexOf_4cfef 1 = .ok (.invokestatic 88, 3) := by decide +kernel
theorem dJ1_indexOf_4cfef_4 : decode cJ1_indexOf_4cfef 4 = .ok (.ifCond .ne 5, 3) := by decide +kernel
theorem dJ1_indexOf_4cfef_7 : decode cJ1_indexOf_4cfef 7 = .ok (.iconst (-1), 1) := by decide +kernel
theorem dJ1_indexOf_4cfef_8 : decode cJ1_indexOf_4cfef 8 = .ok (.ireturn, 1) := by decide +kernel
theorem dJ1_indexOf_4cfef_9 : decode cJ1_indexOf_4cfef 9 = .ok (.iload_n 2, 1) := by decide +kernel
theorem dJ1_indexOf_4cfef_10 : decode cJ1_indexOf_4cfef 10 = .ok (.iconst 0, 1) := by decide +kernel
theorem dJ1_indexOf_4cfef_11 : decode cJ1_indexOf_4cfef 11 = .ok (.invokestatic 92, 3) := by decide +kernel
theorem dJ1_indexOf_4cfef_14 : decode cJ1_indexOf_4cfef 14 = .ok (.istore_n 2, 1) := by decide +kernel
theorem dJ1_indexOf_4cfef_15 : decode cJ1_indexOf_4cfef 15 = .ok (.iload_n 3, 1) := by decide +kernel
theorem dJ1_indexOf_4cfef_16 : decode cJ1_indexOf_4cfef 16 = .ok (.aload_n 0, 1) := by decide +kernel
theorem dJ1_indexOf_4cfef_17 : decode cJ1_indexOf_4cfef 17 = .ok (.arraylength, 1) := by decide +kernel
theorem dJ1_indexOf_4cfef_18 : decode cJ1_indexOf_4cfef 18 = .ok (.invokestatic 38, 3) := by decide +kernel
theorem dJ1_indexOf_4cfef_21 : decode cJ1_indexOf_4cfef 21 = .ok (.istore_n 3, 1) := by decide +kernel
theorem dJ1_indexOf_4cfef_22 : decode cJ1_indexOf_4cfef 22 = .ok (.iload_n 2, 1) := by decide +kernel
theorem dJ1_indexOf_4cfef_23 : decode cJ1_indexOf_4cfef 23 = .ok (.iload_n 3, 1) := by decide +kernel
theorem dJ1_indexOf_4cfef_24 : decode cJ1_indexOf_4cfef 24 = .ok (.if_icmp .lt 5, 3) := by decide +kernel
theorem dJ1_indexOf_4cfef_27 : decode cJ1_indexOf_4cfef 27 = .ok (.iconst (-1), 1) := by decide +kernel
theorem dJ1_indexOf_4cfef_28 : decode cJ1_indexOf_4cfef 28 = .ok (.ireturn, 1) := by decide +kernel
theorem dJ1_indexOf_4cfef_29 : decode cJ1_indexOf_4cfef 29 = .ok (.aload_n 0, 1) := by decide +kernel
theorem dJ1_indexOf_4cfef_30 : decode cJ1_indexOf_4cfef 30 = .ok (.iload_n 1, 1) := by decide +kernel
theorem dJ1_indexOf_4cfef_31 : decode cJ1_indexOf_4cfef 31 = .ok (.iload_n 2, 1) := by decide +kernel
theorem dJ1_indexOf_4cfef_32 : decode cJ1_indexOf_4cfef 32 = .ok (.iload_n 3, 1) := by decide +kernel
theorem dJ1_indexOf_4cfef_33 : decode cJ1_indexOf_4cfef 33 = .ok (.invokestatic 95, 3) := by decide +kernel
theorem dJ1_indexOf_4cfef_36 : decode cJ1_indexOf_4cfef 36 = .ok (.ireturn, 1) := by decide +kernel
theorem dJ1_indexOfChar_4cfef_0 : decode cJ1_indexOfChar_4cfef 0 = .ok (.iload_n 1, 1) := by decide +kernel
theorem dJ1_indexOfChar_4cfef_1 : decode cJ1_indexOfChar_4cfef 1 = .ok (.i2b, 1) := by decide +kernel
theorem dJ1_indexOfChar_4cfef_2 : decode cJ1_indexOfChar_4cfef 2 = .ok (.istore 4, 2) := by decide +kernel
theorem dJ1_indexOfChar_4cfef_4 : decode cJ1_indexOfChar_4cfef 4 = .ok (.iload_n 2, 1) := by decide +kernel
theorem dJ1_indexOfChar_4cfef_5 : decode cJ1_indexOfChar_4cfef 5 = .ok (.istore 5, 2) := by decide +kernel
theorem dJ1_indexOfChar_4cfef_7 : decode cJ1_indexOfChar_4cfef 7 = .ok (.iload 5, 2) := by decide +kernel
theorem dJ1_indexOfChar_4cfef_9 : decode cJ1_indexOfChar_4cfef 9 = .ok (.iload_n 3, 1) := by decide +kernel
theorem dJ1_indexOfChar_4cfef_10 : decode cJ1_indexOfChar_4cfef 10 = .ok (.if_icmp .ge 21, 3) := by decide +kernel
theorem dJ1_indexOfChar_4cfef_13 : decode cJ1_indexOfChar_4cfef 13 = .ok (.aload_n 0, 1) := by decide +kernel
theorem dJ1_indexOfChar_4cfef_14 : decode cJ1_indexOfChar_4cfef 14 = .ok (.iload 5, 2) := by decide +kernel
theorem dJ1_indexOfChar_4cfef_16 : decode cJ1_indexOfChar_4cfef 16 = .ok (.baload, 1) := by decide +kernel
theorem dJ1_indexOfChar_4cfef_17 : decode cJ1_indexOfChar_4cfef 17 = .ok (.iload 4, 2) := by decide +kernel
theorem dJ1_indexOfChar_4cfef_19 : decode cJ1_indexOfChar_4cfef 19 = .ok (.if_icmp .ne 6, 3) := by decide +kernel
theorem dJ1_indexOfChar_4cfef_22 : decode cJ1_indexOfChar_4cfef 22 = .ok (.iload 5, 2) := by decide +kernel
theorem dJ1_indexOfChar_4cfef_24 : decode cJ1_indexOfChar_4cfef 24 = .ok (.ireturn, 1) := by decide +kernel
theorem dJ1_indexOfChar_4cfef_25 : decode cJ1_indexOfChar_4cfef 25 = .ok (.iinc 5 1, 3) := by decide +kernel
theorem dJ1_indexOfChar_4cfef_28 : decode cJ1_indexOfChar_4cfef 28 = .ok (.goto (-21), 3) := by decide +kernel
theorem dJ1_indexOfChar_4cfef_31 : decode cJ1_indexOfChar_4cfef 31 = .ok (.iconst (-1), 1) := by decide +kernel
theorem dJ1_indexOfChar_4cfef_32 : decode cJ1_indexOfChar_4cfef 32 = .ok (.ireturn, 1) := by decide +kernel
theorem dJ2_getChar_3b067_0 : decode cJ2_getChar_3b067 0 = .ok (.getstatic 44, 3) := by decide +kernel
theorem dJ2_getChar_3b067_3 : decode cJ2_getChar_3b067 3 = .ok (.ifCond .ne 25, 3) := by decide +kernel
theorem dJ2_getChar_3b067_6 : decode cJ2_getChar_3b067 6 = .ok (.iload_n 1, 1) := by decide +kernel
theorem dJ2_getChar_3b067_7 : decode cJ2_getChar_3b067 7 = .ok (.ifCond .lt 11, 3) := by decide +kernel
theorem dJ2_getChar_3b067_10 : decode cJ2_getChar_3b067 10 = .ok (.iload_n 1, 1) := by decide +kernel
theorem dJ2_getChar_3b067_11 : decode cJ2_getChar_3b067 11 = .ok (.aload_n 0, 1) := by decide +kernel
theorem dJ2_getChar_3b067_12 : decode cJ2_getChar_3b067 12 = .ok (.invokestatic 48, 3) := by decide +kernel
theorem dJ2_getChar_3b067_15 : decode cJ2_getChar_3b067 15 = .ok (.if_icmp .lt 13, 3) := by decide +kernel
theorem dJ2_getChar_3b067_18 : decode cJ2_getChar_3b067 18 = .ok (.new 52, 3) := by decide +kernel
theorem dJ2_getChar_3b067_21 : decode cJ2_getChar_3b067 21 = .ok (.dup, 1) := by decide +kernel
theorem dJ2_getChar_3b067_22 : decode cJ2_getChar_3b067 22 = .ok (.ldc 54, 2) := by decide +kernel
theorem dJ2_getChar_3b067_24 : decode cJ2_getChar_3b067 24 = .ok (.invokespecial 56, 3) := by decide +kernel
theorem dJ2_getChar_3b067_27 : decode cJ2_getChar_3b067 27 = .ok (.athrow, 1) := by decide +kernel
theorem dJ2_getChar_3b067_28 : decode cJ2_getChar_3b067 28 = .ok (.iload_n 1, 1) := by decide +kernel
theorem dJ2_getChar_3b067_29 : decode cJ2_getChar_3b067 29 = .ok (.iconst 1, 1) := by decide +kernel
theorem dJ2_getChar_3b067_30 : decode cJ2_getChar_3b067 30 = .ok (.ishl, 1) := by decide +kernel
theorem dJ2_getChar_3b067_31 : decode cJ2_getChar_3b067 31 = .ok (.istore_n 1, 1) := by decide +kernel
theorem dJ2_getChar_3b067_32 : decode cJ2_getChar_3b067 32 = .ok (.aload_n 0, 1) := by decide +kernel
theorem dJ2_getChar_3b067_33 : decode cJ2_getChar_3b067 33 = .ok (.iload_n 1, 1) := by decide +kernel
theorem dJ2_getChar_3b067_34 : decode cJ2_getChar_3b067 34 = .ok (.iinc 1 1, 3) := by decide +kernel
theorem dJ2_getChar_3b067_37 : decode cJ2_getChar_3b067 37 = .ok (.baload, 1) := by decide +kernel
theorem dJ2_getChar_3b067_38 : decode cJ2_getChar_3b067 38 = .ok (.sipush 255, 3) := by decide +kernel
theorem dJ2_getChar_3b067_41 : decode cJ2_getChar_3b067 41 = .ok (.iand, 1) := by decide +kernel
theorem dJ2_getChar_3b067_42 : decode cJ2_getChar_3b067 42 = .ok (.getstatic 59, 3) := by decide +kernel
theorem dJ2_getChar_3b067_45 : decode cJ2_getChar_3b067 45 = .ok (.ishl, 1) := by decide +kernel
theorem dJ2_getChar_3b067_46 : decode cJ2_getChar_3b067 46 = .ok (.aload_n 0, 1) := by decide +kernel
theorem dJ2_getChar_3b067_47 : decode cJ2_getChar_3b067 47 = .ok (.iload_n 1, 1) := by decide +kernel
theorem dJ2_getChar_3b067_48 : decode cJ2_getChar_3b067 48 = .ok (.baload, 1) := by decide +kernel
theorem dJ2_getChar_3b067_49 : decode cJ2_getChar_3b067 49 = .ok (.sipush 255, 3) := by decide +kernel
theorem dJ2_getChar_3b067_52 : decode cJ2_getChar_3b067 52 = .ok (.iand, 1) := by decide +kernel
theorem dJ2_getChar_3b067_53 : decode cJ2_getChar_3b067 53 = .ok (.getstatic 63, 3) := by decide +kernel
theorem dJ2_getChar_3b067_56 : decode cJ2_getChar_3b067 56 = .ok (.ishl, 1) := by decide +kernel
theorem dJ2_getChar_3b067_57 : decode cJ2_getChar_3b067 57 = .ok (.ior, 1) := by decide +kernel
theorem dJ2_getChar_3b067_58 : decode cJ2_getChar_3b067 58 = .ok (.i2c, 1) := by decide +kernel
theorem dJ2_getChar_3b067_59 : decode cJ2_getChar_3b067 59 = .ok (.ireturn, 1) := by decide +kernel
theorem dJ2_length_9d52b_0 : decode cJ2_length_9d52b 0 = .ok (.aload_n 0, 1) := by decide +kernel
theorem dJ2_length_9d52b_1 : decode cJ2_length_9d52b 1 = .ok (.arraylength, 1) := by decide +kernel
theorem dJ2_length_9d52b_2 : decode cJ2_length_9d52b 2 = .ok (.iconst 1, 1) := by decide +kernel
theorem dJ2_length_9d52b_3 : decode cJ2_length_9d52b 3 = .ok (.ishr, 1) := by decide +kernel
theorem dJ2_length_9d52b_4 : decode cJ2_length_9d52b 4 = .ok (.ireturn, 1) := by decide +kernel
theorem dJ2_indexOf_4cfef_0 : decode cJ2_indexOf_4cfef 0 = .ok (.iload_n 2, 1) := by decide +kernel
theorem dJ2_indexOf_4cfef_1 : decode cJ2_indexOf_4cfef 1 = .ok (.iconst 0, 1) := by decide +kernel
theorem dJ2_indexOf_4cfef_2 : decode cJ2_indexOf_4cfef 2 = .ok (.invokestatic 224, 3) := by decide +kernel
theorem dJ2_indexOf_4cfef_5 : decode cJ2_indexOf_4cfef 5 = .ok (.istore_n 2, 1) := by decide +kernel
theorem dJ2_indexOf_4cfef_6 : decode cJ2_indexOf_4cfef 6 = .ok (.iload_n 3, 1) := by decide +kernel
theorem dJ2_indexOf_4cfef_7 : decode cJ2_indexOf_4cfef 7 = .ok (.aload_n 0, 1) := by decide +kernel
theorem dJ2_indexOf_4cfef_8 : decode cJ2_indexOf_4cfef 8 = .ok (.arraylength, 1) := by decide +kernel
theorem dJ2_indexOf_4cfef_9 : decode cJ2_indexOf_4cfef 9 = .ok (.iconst 1, 1) := by decide +kernel
theorem dJ2_indexOf_4cfef_10 : decode cJ2_indexOf_4cfef 10 = .ok (.ishr, 1) := by decide +kernel
theorem dJ2_indexOf_4cfef_11 : decode cJ2_indexOf_4cfef 11 = .ok (.invokestatic 183, 3) := by decide +kernel
theorem dJ2_indexOf_4cfef_14 : decode cJ2_indexOf_4cfef 14 = .ok (.istore_n 3, 1) := by decide +kernel
theorem dJ2_indexOf_4cfef_15 : decode cJ2_indexOf_4cfef 15 = .ok (.iload_n 2, 1) := by decide +kernel
theorem dJ2_indexOf_4cfef_16 : decode cJ2_indexOf_4cfef 16 = .ok (.iload_n 3, 1) := by decide +kernel
theorem dJ2_indexOf_4cfef_17 : decode cJ2_indexOf_4cfef 17 = .ok (.if_icmp .lt 5, 3) := by decide +kernel
theorem dJ2_indexOf_4cfef_20 : decode cJ2_indexOf_4cfef 20 = .ok (.iconst (-1), 1) := by decide +kernel
theorem dJ2_indexOf_4cfef_21 : decode cJ2_indexOf_4cfef 21 = .ok (.ireturn, 1) := by decide +kernel
theorem dJ2_indexOf_4cfef_22 : decode cJ2_indexOf_4cfef 22 = .ok (.iload_n 1, 1) := by decide +kernel
theorem dJ2_indexOf_4cfef_23 : decode cJ2_indexOf_4cfef 23 = .ok (.ldc 227, 2) := by decide +kernel
theorem dJ2_indexOf_4cfef_25 : decode cJ2_indexOf_4cfef 25 = .ok (.if_icmp .ge 11, 3) := by decide +kernel
theorem dJ2_indexOf_4cfef_28 : decode cJ2_indexOf_4cfef 28 = .ok (.aload_n 0, 1) := by decide +kernel
theorem dJ2_indexOf_4cfef_29 : decode cJ2_indexOf_4cfef 29 = .ok (.iload_n 1, 1) := by decide +kernel
theorem dJ2_indexOf_4cfef_30 : decode cJ2_indexOf_4cfef 30 = .ok (.iload_n 2, 1) := by decide +kernel
theorem dJ2_indexOf_4cfef_31 : decode cJ2_indexOf_4cfef 31 = .ok (.iload_n 3, 1) := by decide +kernel
theorem dJ2_indexOf_4cfef_32 : decode cJ2_indexOf_4cfef 32 = .ok (.invokestatic 228, 3) := by decide +kernel
theorem dJ2_indexOf_4cfef_35 : decode cJ2_indexOf_4cfef 35 = .ok (.ireturn, 1) := by decide +kernel
theorem dJ2_indexOf_4cfef_36 : decode cJ2_indexOf_4cfef 36 = .ok (.aload_n 0, 1) := by decide +kernel
theorem dJ2_indexOf_4cfef_37 : decode cJ2_indexOf_4cfef 37 = .ok (.iload_n 1, 1) := by decide +kernel
theorem dJ2_indexOf_4cfef_38 : decode cJ2_indexOf_4cfef 38 = .ok (.iload_n 2, 1) := by decide +kernel
theorem dJ2_indexOf_4cfef_39 : decode cJ2_indexOf_4cfef 39 = .ok (.iload_n 3, 1) := by decide +kernel
theorem dJ2_indexOf_4cfef_40 : decode cJ2_indexOf_4cfef 40 = .ok (.invokestatic 232, 3) := by decide +kernel
theorem dJ2_indexOf_4cfef_43 : decode cJ2_indexOf_4cfef 43 = .ok (.ireturn, 1) := by decide +kernel
theorem dJ2_indexOfChar_4cfef_0 : decode cJ2_indexOfChar_4cfef 0 = .ok (.iload_n 2, 1) := by decide +kernel
theorem dJ2_indexOfChar_4cfef_1 : decode cJ2_indexOfChar_4cfef 1 = .ok (.iload_n 3, 1) := by decide +kernel
theorem dJ2_indexOfChar_4cfef_2 : decode cJ2_indexOfChar_4cfef 2 = .ok (.aload_n 0, 1) := by decide +kernel
theorem dJ2_indexOfChar_4cfef_3 : decode cJ2_indexOfChar_4cfef 3 = .ok (.invokestatic 96, 3) := by decide +kernel
theorem dJ2_indexOfChar_4cfef_6 : decode cJ2_indexOfChar_4cfef 6 = .ok (.aload_n 0, 1) := by decide +kernel
theorem dJ2_indexOfChar_4cfef_7 : decode cJ2_indexOfChar_4cfef 7 = .ok (.iload_n 1, 1) := by decide +kernel
theorem dJ2_indexOfChar_4cfef_8 : decode cJ2_indexOfChar_4cfef 8 = .ok (.iload_n 2, 1) := by decide +kernel
theorem dJ2_indexOfChar_4cfef_9 : decode cJ2_indexOfChar_4cfef 9 = .ok (.iload_n 3, 1) := by decide +kernel
theorem dJ2_indexOfChar_4cfef_10 : decode cJ2_indexOfChar_4cfef 10 = .ok (.invokestatic 244, 3) := by decide +kernel
theorem dJ2_indexOfChar_4cfef_13 : decode cJ2_indexOfChar_4cfef 13 = .ok (.ireturn, 1) := by decide +kernel
theorem dJ2_indexOfCharUnsafe_4cfef_0 : decode cJ2_indexOfCharUnsafe_4cfef 0 = .ok (.iload_n 2, 1) := by decide +kernel
theorem dJ2_indexOfCharUnsafe_4cfef_1 : decode cJ2_indexOfCharUnsafe_4cfef 1 = .ok (.istore 4, 2) := by decide +kernel
theorem dJ2_indexOfCharUnsafe_4cfef_3 : decode cJ2_indexOfCharUnsafe_4cfef 3 = .ok (.iload 4, 2) := by decide +kernel
theorem dJ2_indexOfCharUnsafe_4cfef_5 : decode cJ2_indexOfCharUnsafe_4cfef 5 = .ok (.iload_n 3, 1) := by decide +kernel
theorem dJ2_indexOfCharUnsafe_4cfef_6 : decode cJ2_indexOfCharUnsafe_4cfef 6 = .ok (.if_icmp .ge 22, 3) := by decide +kernel
theorem dJ2_indexOfCharUnsafe_4cfef_9 : decode cJ2_indexOfCharUnsafe_4cfef 9 = .ok (.aload_n 0, 1) := by decide +kernel
theorem dJ2_indexOfCharUnsafe_4cfef_10 : decode cJ2_indexOfCharUnsafe_4cfef 10 = .ok (.iload 4, 2) := by decide +kernel
theorem dJ2_indexOfCharUnsafe_4cfef_12 : decode cJ2_indexOfCharUnsafe_4cfef 12 = .ok (.invokestatic 71, 3) := by decide +kernel
theorem dJ2_indexOfCharUnsafe_4cfef_15 : decode cJ2_indexOfCharUnsafe_4cfef 15 = .ok (.iload_n 1, 1) := by decide +kernel
theorem dJ2_indexOfCharUnsafe_4cfef_16 : decode cJ2_indexOfCharUnsafe_4cfef 16 = .ok (.if_icmp .ne 6, 3) := by decide +kernel
theorem dJ2_indexOfCharUnsafe_4cfef_19 : decode cJ2_indexOfCharUnsafe_4cfef 19 = .ok (.iload 4, 2) := by decide +kernel
theorem dJ2_indexOfCharUnsafe_4cfef_21 : decode cJ2_indexOfCharUnsafe_4cfef 21 = .ok (.ireturn, 1) := by decide +kernel
theorem dJ2_indexOfCharUnsafe_4cfef_22 : decode cJ2_indexOfCharUnsafe_4cfef 22 = .ok (.iinc 4 1, 3) := by decide +kernel
theorem dJ2_indexOfCharUnsafe_4cfef_25 : decode cJ2_indexOfCharUnsafe_4cfef 25 = .ok (.goto (-22), 3) := by decide +kernel
theorem dJ2_indexOfCharUnsafe_4cfef_28 : decode cJ2_indexOfCharUnsafe_4cfef 28 = .ok (.iconst (-1), 1) := by decide +kernel
theorem dJ2_indexOfCharUnsafe_4cfef_29 : decode cJ2_indexOfCharUnsafe_4cfef 29 = .ok (.ireturn, 1) := by decide +kernel
theorem dJ2_indexOfSupplementary_4cfef_0 : decode cJ2_indexOfSupplementary_4cfef 0 = .ok (.iload_n 1, 1) := by decide +kernel
theorem dJ2_indexOfSupplementary_4cfef_1 : decode cJ2_indexOfSupplementary_4cfef 1 = .ok (.invokestatic 164, 3) := by decide +kernel
theorem dJ2_indexOfSupplementary_4cfef_4 : decode cJ2_indexOfSupplementary_4cfef 4 = .ok (.ifCond .eq 65, 3) := by decide +kernel
theorem dJ2_indexOfSupplementary_4cfef_7 : decode cJ2_indexOfSupplementary_4cfef 7 = .ok (.iload_n 1, 1) := by decide +kernel
theorem dJ2_indexOfSupplementary_4cfef_8 : decode cJ2_indexOfSupplementary_4cfef 8 = .ok (.invokestatic 157, 3) := by decide +kernel
theorem dJ2_indexOfSupplementary_4cfef_11 : decode cJ2_indexOfSupplementary_4cfef 11 = .ok (.istore 4, 2) := by decide +kernel
theorem dJ2_indexOfSupplementary_4cfef_13 : decode cJ2_indexOfSupplementary_4cfef 13 = .ok (.iload_n 1, 1) := by decide +kernel
theorem dJ2_indexOfSupplementary_4cfef_14 : decode cJ2_indexOfSupplementary_4cfef 14 = .ok (.invokestatic 161, 3) := by decide +kernel
theorem dJ2_indexOfSupplementary_4cfef_17 : decode cJ2_indexOfSupplementary_4cfef 17 = .ok (.istore 5, 2) := by decide +kernel
theorem dJ2_indexOfSupplementary_4cfef_19 : decode cJ2_indexOfSupplementary_4cfef 19 = .ok (.iload_n 2, 1) := by decide +kernel
theorem dJ2_indexOfSupplementary_4cfef_20 : decode cJ2_indexOfSupplementary_4cfef 20 = .ok (.iload_n 3, 1) := by decide +kernel
theorem dJ2_indexOfSupplementary_4cfef_21 : decode cJ2_indexOfSupplementary_4cfef 21 = .ok (.aload_n 0, 1) := by decide +kernel
theorem dJ2_indexOfSupplementary_4cfef_22 : decode cJ2_indexOfSupplementary_4cfef 22 = .ok (.invokestatic 96, 3) := by decide +kernel
theorem dJ2_indexOfSupplementary_4cfef_25 : decode cJ2_indexOfSupplementary_4cfef 25 = .ok (.iload_n 2, 1) := by decide +kernel
theorem dJ2_indexOfSupplementary_4cfef_26 : decode cJ2_indexOfSupplementary_4cfef 26 = .ok (.istore 6, 2) := by decide +kernel
theorem dJ2_indexOfSupplementary_4cfef_28 : decode cJ2_indexOfSupplementary_4cfef 28 = .ok (.iload 6, 2) := by decide +kernel
theorem dJ2_indexOfSupplementary_4cfef_30 : decode cJ2_indexOfSupplementary_4cfef 30 = .ok (.iload_n 3, 1) := by decide +kernel
theorem dJ2_indexOfSupplementary_4cfef_31 : decode cJ2_indexOfSupplementary_4cfef 31 = .ok (.iconst 1, 1) := by decide +kernel
theorem dJ2_indexOfSupplementary_4cfef_32 : decode cJ2_indexOfSupplementary_4cfef 32 = .ok (.isub, 1) := by decide +kernel
theorem dJ2_indexOfSupplementary_4cfef_33 : decode cJ2_indexOfSupplementary_4cfef 33 = .ok (.if_icmp .ge 36, 3) := by decide +kernel
theorem dJ2_indexOfSupplementary_4cfef_36 : decode cJ2_indexOfSupplementary_4cfef 36 = .ok (.aload_n 0, 1) := by decide +kernel
theorem dJ2_indexOfSupplementary_4cfef_37 : decode cJ2_indexOfSupplementary_4cfef 37 = .ok (.iload 6, 2) := by decide +kernel
theorem dJ2_indexOfSupplementary_4cfef_39 : decode cJ2_indexOfSupplementary_4cfef 39 = .ok (.invokestatic 71, 3) := by decide +kernel
theorem dJ2_indexOfSupplementary_4cfef_42 : decode cJ2_indexOfSupplementary_4cfef 42 = .ok (.iload 4, 2) := by decide +kernel
theorem dJ2_indexOfSupplementary_4cfef_44 : decode cJ2_indexOfSupplementary_4cfef 44 = .ok (.if_icmp .ne 19, 3) := by decide +kernel
theorem dJ2_indexOfSupplementary_4cfef_47 : decode cJ2_indexOfSupplementary_4cfef 47 = .ok (.aload_n 0, 1) := by decide +kernel
theorem dJ2_indexOfSupplementary_4cfef_48 : decode cJ2_indexOfSupplementary_4cfef 48 = .ok (.iload 6, 2) := by decide +kernel
theorem dJ2_indexOfSupplementary_4cfef_50 : decode cJ2_indexOfSupplementary_4cfef 50 = .ok (.iconst 1, 1) := by decide +kernel
theorem dJ2_indexOfSupplementary_4cfef_51 : decode cJ2_indexOfSupplementary_4cfef 51 = .ok (.iadd, 1) := by decide +kernel
theorem dJ2_indexOfSupplementary_4cfef_52 : decode cJ2_indexOfSupplementary_4cfef 52 = .ok (.invokestatic 71, 3) := by decide +kernel
theorem dJ2_indexOfSupplementary_4cfef_55 : decode cJ2_indexOfSupplementary_4cfef 55 = .ok (.iload 5, 2) := by decide +kernel
theorem dJ2_indexOfSupplementary_4cfef_57 : decode cJ2_indexOfSupplementary_4cfef 57 = .ok (.if_icmp .ne 6, 3) := by decide +kernel
theorem dJ2_indexOfSupplementary_4cfef_60 : decode cJ2_indexOfSupplementary_4cfef 60 = .ok (.iload 6, 2) := by decide +kernel
theorem dJ2_indexOfSupplementary_4cfef_62 : decode cJ2_indexOfSupplementary_4cfef 62 = .ok (.ireturn, 1) := by decide +kernel
theorem dJ2_indexOfSupplementary_4cfef_63 : decode cJ2_indexOfSupplementary_4cfef 63 = .ok (.iinc 6 1, 3) := by decide +kernel
theorem dJ2_indexOfSupplementary_4cfef_66 : decode cJ2_indexOfSupplementary_4cfef 66 = .ok (.goto (-38), 3) := by decide +kernel
theorem dJ2_indexOfSupplementary_4cfef_69 : decode cJ2_indexOfSupplementary_4cfef 69 = .ok (.iconst (-1), 1) := by decide +kernel
theorem dJ2_indexOfSupplementary_4cfef_70 : decode cJ2_indexOfSupplementary_4cfef 70 = .ok (.ireturn, 1) := by decide +kernel
theorem dJ2_checkBoundsBeginEnd_d044e_0 : decode cJ2_checkBoundsBeginEnd_d044e 0 = .ok (.iload_n 0, 1) := by decide +kernel
theorem dJ2_checkBoundsBeginEnd_d044e_1 : decode cJ2_checkBoundsBeginEnd_d044e 1 = .ok (.iload_n 1, 1) := by decide +kernel
theorem dJ2_checkBoundsBeginEnd_d044e_2 : decode cJ2_checkBoundsBeginEnd_d044e 2 = .ok (.aload_n 2, 1) := by decide +kernel
theorem dJ2_checkBoundsBeginEnd_d044e_3 : decode cJ2_checkBoundsBeginEnd_d044e 3 = .ok (.invokestatic 48, 3) := by decide +kernel
theorem dJ2_checkBoundsBeginEnd_d044e_6 : decode cJ2_checkBoundsBeginEnd_d044e 6 = .ok (.invokestatic 241, 3) := by decide +kernel
theorem dJ2_checkBoundsBeginEnd_d044e_9 : decode cJ2_checkBoundsBeginEnd_d044e 9 = .ok (.return_, 1) := by decide +kernel
theorem dJxa1e45_init_da8c8_0 : decode cJxa1e45_init_da8c8 0 = .ok (.aload_n 0, 1) := by decide +kernel
theorem dJxa1e45_init_da8c8_1 : decode cJxa1e45_init_da8c8 1 = .ok (.invokespecial 1, 3) := by decide +kernel
theorem dJxa1e45_init_da8c8_4 : decode cJxa1e45_init_da8c8 4 = .ok (.return_, 1) := by decide +kernel
theorem dJxc12de_init_da8c8_0 : decode cJxc12de_init_da8c8 0 = .ok (.aload_n 0, 1) := by decide +kernel
theorem dJxc12de_init_da8c8_1 : decode cJxc12de_init_da8c8 1 = .ok (.invokespecial 1, 3) := by decide +kernel
theorem dJxc12de_init_da8c8_4 : decode cJxc12de_init_da8c8 4 = .ok (.aload_n 0, 1) := by decide +kernel
theorem dJxc12de_init_da8c8_5 : decode cJxc12de_init_da8c8 5 = .ok (.iconst 0, 1) := by decide +kernel
theorem dJxc12de_init_da8c8_6 : decode cJxc12de_init_da8c8 6 = .ok (.putfield 7, 3) := by decide +kernel
theorem dJxc12de_init_da8c8_9 : decode cJxc12de_init_da8c8 9 = .ok (.return_, 1) := by decide +kernel
theorem dJx4a65c_init_da8c8_0 : decode cJx4a65c_init_da8c8 0 = .ok (.aload_n 0, 1) := by decide +kernel
theorem dJx4a65c_init_da8c8_1 : decode cJx4a65c_init_da8c8 1 = .ok (.invokespecial 1, 3) := by decide +kernel
theorem dJx4a65c_init_da8c8_4 : decode cJx4a65c_init_da8c8 4 = .ok (.aload_n 0, 1) := by decide +kernel
theorem dJx4a65c_init_da8c8_5 : decode cJx4a65c_init_da8c8 5 = .ok (.getstatic 39, 3) := by decide +kernel
theorem dJx4a65c_init_da8c8_8 : decode cJx4a65c_init_da8c8 8 = .ok (.putfield 9, 3) := by decide +kernel
theorem dJx4a65c_init_da8c8_11 : decode cJx4a65c_init_da8c8 11 = .ok (.return_, 1) := by decide +kernel
theorem dJx4a65c_grow_92f84_0 : decode cJx4a65c_grow_92f84 0 = .ok (.aload_n 0, 1) := by decide +kernel
theorem dJx4a65c_grow_92f84_1 : decode cJx4a65c_grow_92f84 1 = .ok (.getfield 9, 3) := by decide +kernel
theorem dJx4a65c_grow_92f84_4 : decode cJx4a65c_grow_92f84 4 = .ok (.arraylength, 1) := by decide +kernel
theorem dJx4a65c_grow_92f84_5 : decode cJx4a65c_grow_92f84 5 = .ok (.istore_n 2, 1) := by decide +kernel
theorem dJx4a65c_grow_92f84_6 : decode cJx4a65c_grow_92f84 6 = .ok (.iload_n 2, 1) := by decide +kernel
theorem dJx4a65c_grow_92f84_7 : decode cJx4a65c_grow_92f84 7 = .ok (.ifCond .gt 13, 3) := by decide +kernel
theorem dJx4a65c_grow_92f84_10 : decode cJx4a65c_grow_92f84 10 = .ok (.aload_n 0, 1) := by decide +kernel
theorem dJx4a65c_grow_92f84_11 : decode cJx4a65c_grow_92f84 11 = .ok (.getfield 9, 3) := by decide +kernel
theorem dJx4a65c_grow_92f84_14 : decode cJx4a65c_grow_92f84 14 = .ok (.getstatic 39, 3) := by decide +kernel
theorem dJx4a65c_grow_92f84_17 : decode cJx4a65c_grow_92f84 17 = .ok (.if_acmp .eq 28, 3) := by decide +kernel
theorem dJx4a65c_grow_92f84_20 : decode cJx4a65c_grow_92f84 20 = .ok (.iload_n 2, 1) := by decide +kernel
theorem dJx4a65c_grow_92f84_21 : decode cJx4a65c_grow_92f84 21 = .ok (.iload_n 1, 1) := by decide +kernel
theorem dJx4a65c_grow_92f84_22 : decode cJx4a65c_grow_92f84 22 = .ok (.iload_n 2, 1) := by decide +kernel
theorem dJx4a65c_grow_92f84_23 : decode cJx4a65c_grow_92f84 23 = .ok (.isub, 1) := by decide +kernel
theorem dJx4a65c_grow_92f84_24 : decode cJx4a65c_grow_92f84 24 = .ok (.iload_n 2, 1) := by decide +kernel
theorem dJx4a65c_grow_92f84_25 : decode cJx4a65c_grow_92f84 25 = .ok (.iconst 1, 1) := by decide +kernel
theorem dJx4a65c_grow_92f84_26 : decode cJx4a65c_grow_92f84 26 = .ok (.ishr, 1) := by decide +kernel
theorem dJx4a65c_grow_92f84_27 : decode cJx4a65c_grow_92f84 27 = .ok (.invokestatic 73, 3) := by decide +kernel
theorem dJx4a65c_grow_92f84_30 : decode cJx4a65c_grow_92f84 30 = .ok (.istore_n 3, 1) := by decide +kernel
theorem dJx4a65c_grow_92f84_31 : decode cJx4a65c_grow_92f84 31 = .ok (.aload_n 0, 1) := by decide +kernel
theorem dJx4a65c_grow_92f84_32 : decode cJx4a65c_grow_92f84 32 = .ok (.aload_n 0, 1) := by decide +kernel
theorem dJx4a65c_grow_92f84_33 : decode cJx4a65c_grow_92f84 33 = .ok (.getfield 9, 3) := by decide +kernel
theorem dJx4a65c_grow_92f84_36 : decode cJx4a65c_grow_92f84 36 = .ok (.iload_n 3, 1) := by decide +kernel
theorem dJx4a65c_grow_92f84_37 : decode cJx4a65c_grow_92f84 37 = .ok (.invokestatic 66, 3) := by decide +kernel
theorem dJx4a65c_grow_92f84_40 : decode cJx4a65c_grow_92f84 40 = .ok (.dup_x1, 1) := by decide +kernel
theorem dJx4a65c_grow_92f84_41 : decode cJx4a65c_grow_92f84 41 = .ok (.putfield 9, 3) := by decide +kernel
theorem dJx4a65c_grow_92f84_44 : decode cJx4a65c_grow_92f84 44 = .ok (.areturn, 1) := by decide +kernel
theorem dJx4a65c_grow_92f84_45 : decode cJx4a65c_grow_92f84 45 = .ok (.aload_n 0, 1) := by decide +kernel
theorem dJx4a65c_grow_92f84_46 : decode cJx4a65c_grow_92f84 46 = .ok (.bipush 10, 2) := by decide +kernel
theorem dJx4a65c_grow_92f84_48 : decode cJx4a65c_grow_92f84 48 = .ok (.iload_n 1, 1) := by decide +kernel
theorem dJx4a65c_grow_92f84_49 : decode cJx4a65c_grow_92f84 49 = .ok (.invokestatic 79, 3) := by decide +kernel
theorem dJx4a65c_grow_92f84_52 : decode cJx4a65c_grow_92f84 52 = .ok (.anewarray 7, 3) := by decide +kernel
theorem dJx4a65c_grow_92f84_55 : decode cJx4a65c_grow_92f84 55 = .ok (.dup_x1, 1) := by decide +kernel
theorem dJx4a65c_grow_92f84_56 : decode cJx4a65c_grow_92f84 56 = .ok (.putfield 9, 3) := by decide +kernel
theorem dJx4a65c_grow_92f84_59 : decode cJx4a65c_grow_92f84 59 = .ok (.areturn, 1) := by decide +kernel
theorem dJx4a65c_grow_d5877_0 : decode cJx4a65c_grow_d5877 0 = .ok (.aload_n 0, 1) := by decide +kernel
theorem dJx4a65c_grow_d5877_1 : decode cJx4a65c_grow_d5877 1 = .ok (.aload_n 0, 1) := by decide +kernel
theorem dJx4a65c_grow_d5877_2 : decode cJx4a65c_grow_d5877 2 = .ok (.getfield 48, 3) := by decide +kernel
theorem dJx4a65c_grow_d5877_5 : decode cJx4a65c_grow_d5877 5 = .ok (.iconst 1, 1) := by decide +kernel
theorem dJx4a65c_grow_d5877_6 : decode cJx4a65c_grow_d5877 6 = .ok (.iadd, 1) := by decide +kernel
theorem dJx4a65c_grow_d5877_7 : decode cJx4a65c_grow_d5877 7 = .ok (.invokevirtual 69, 3) := by decide +kernel
theorem dJx4a65c_grow_d5877_10 : decode cJx4a65c_grow_d5877 10 = .ok (.areturn, 1) := by decide +kernel
theorem dJx4a65c_size_8abf5_0 : decode cJx4a65c_size_8abf5 0 = .ok (.aload_n 0, 1) := by decide +kernel
theorem dJx4a65c_size_8abf5_1 : decode cJx4a65c_size_8abf5 1 = .ok (.getfield 48, 3) := by decide +kernel
theorem dJx4a65c_size_8abf5_4 : decode cJx4a65c_size_8abf5 4 = .ok (.ireturn, 1) := by decide +kernel
theorem dJx4a65c_elementData_915e3_0 : decode cJx4a65c_elementData_915e3 0 = .ok (.aload_n 0, 1) := by decide +kernel
theorem dJx4a65c_elementData_915e3_1 : decode cJx4a65c_elementData_915e3 1 = .ok (.getfield 9, 3) := by decide +kernel
theorem dJx4a65c_elementData_915e3_4 : decode cJx4a65c_elementData_915e3 4 = .ok (.iload_n 1, 1) := by decide +kernel
theorem dJx4a65c_elementData_915e3_5 : decode cJx4a65c_elementData_915e3 5 = .ok (.aaload, 1) := by decide +kernel
theorem dJx4a65c_elementData_915e3_6 : decode cJx4a65c_elementData_915e3 6 = .ok (.areturn, 1) := by decide +kernel
theorem dJx4a65c_get_915e3_0 : decode cJx4a65c_get_915e3 0 = .ok (.iload_n 1, 1) := by decide +kernel
theorem dJx4a65c_get_915e3_1 : decode cJx4a65c_get_915e3 1 = .ok (.aload_n 0, 1) := by decide +kernel
theorem dJx4a65c_get_915e3_2 : decode cJx4a65c_get_915e3 2 = .ok (.getfield 48, 3) := by decide +kernel
theorem dJx4a65c_get_915e3_5 : decode cJx4a65c_get_915e3 5 = .ok (.invokestatic 118, 3) := by decide +kernel
theorem dJx4a65c_get_915e3_8 : decode cJx4a65c_get_915e3 8 = .ok (.pop, 1) := by decide +kernel
theorem dJx4a65c_get_915e3_9 : decode cJx4a65c_get_915e3 9 = .ok (.aload_n 0, 1) := by decide +kernel
theorem dJx4a65c_get_915e3_10 : decode cJx4a65c_get_915e3 10 = .ok (.iload_n 1, 1) := by decide +kernel
theorem dJx4a65c_get_915e3_11 : decode cJx4a65c_get_915e3 11 = .ok (.invokevirtual 123, 3) := by decide +kernel
theorem dJx4a65c_get_915e3_14 : decode cJx4a65c_get_915e3 14 = .ok (.areturn, 1) := by decide +kernel
theorem dJx4a65c_add_72be8_0 : decode cJx4a65c_add_72be8 0 = .ok (.iload_n 3, 1) := by decide +kernel
theorem dJx4a65c_add_72be8_1 : decode cJx4a65c_add_72be8 1 = .ok (.aload_n 2, 1) := by decide +kernel
theorem dJx4a65c_add_72be8_2 : decode cJx4a65c_add_72be8 2 = .ok (.arraylength, 1) := by decide +kernel
theorem dJx4a65c_add_72be8_3 : decode cJx4a65c_add_72be8 3 = .ok (.if_icmp .ne 8, 3) := by decide +kernel
theorem dJx4a65c_add_72be8_6 : decode cJx4a65c_add_72be8 6 = .ok (.aload_n 0, 1) := by decide +kernel
theorem dJx4a65c_add_72be8_7 : decode cJx4a65c_add_72be8 7 = .ok (.invokevirtual 129, 3) := by decide +kernel
theorem dJx4a65c_add_72be8_10 : decode cJx4a65c_add_72be8 10 = .ok (.astore_n 2, 1) := by decide +kernel
theorem dJx4a65c_add_72be8_11 : decode cJx4a65c_add_72be8 11 = .ok (.aload_n 2, 1) := by decide +kernel
theorem dJx4a65c_add_72be8_12 : decode cJx4a65c_add_72be8 12 = .ok (.iload_n 3, 1) := by decide +kernel
theorem dJx4a65c_add_72be8_13 : decode cJx4a65c_add_72be8 13 = .ok (.aload_n 1, 1) := by decide +kernel
theorem dJx4a65c_add_72be8_14 : decode cJx4a65c_add_72be8 14 = .ok (.aastore, 1) := by decide +kernel
theorem dJx4a65c_add_72be8_15 : decode cJx4a65c_add_72be8 15 = .ok (.aload_n 0, 1) := by decide +kernel
theorem dJx4a65c_add_72be8_16 : decode cJx4a65c_add_72be8 16 = .ok (.iload_n 3, 1) := by decide +kernel
theorem dJx4a65c_add_72be8_17 : decode cJx4a65c_add_72be8 17 = .ok (.iconst 1, 1) := by decide +kernel
theorem dJx4a65c_add_72be8_18 : decode cJx4a65c_add_72be8 18 = .ok (.iadd, 1) := by decide +kernel
theorem dJx4a65c_add_72be8_19 : decode cJx4a65c_add_72be8 19 = .ok (.putfield 48, 3) := by decide +kernel
theorem dJx4a65c_add_72be8_22 : decode cJx4a65c_add_72be8 22 = .ok (.return_, 1) := by decide +kernel
theorem dJx4a65c_add_9ea2d_0 : decode cJx4a65c_add_9ea2d 0 = .ok (.aload_n 0, 1) := by decide +kernel
theorem dJx4a65c_add_9ea2d_1 : decode cJx4a65c_add_9ea2d 1 = .ok (.dup, 1) := by decide +kernel
theorem dJx4a65c_add_9ea2d_2 : decode cJx4a65c_add_9ea2d 2 = .ok (.getfield 63, 3) := by decide +kernel
theorem dJx4a65c_add_9ea2d_5 : decode cJx4a65c_add_9ea2d 5 = .ok (.iconst 1, 1) := by decide +kernel
theorem dJx4a65c_add_9ea2d_6 : decode cJx4a65c_add_9ea2d 6 = .ok (.iadd, 1) := by decide +kernel
theorem dJx4a65c_add_9ea2d_7 : decode cJx4a65c_add_9ea2d 7 = .ok (.putfield 63, 3) := by decide +kernel
theorem dJx4a65c_add_9ea2d_10 : decode cJx4a65c_add_9ea2d 10 = .ok (.aload_n 0, 1) := by decide +kernel
theorem dJx4a65c_add_9ea2d_11 : decode cJx4a65c_add_9ea2d 11 = .ok (.aload_n 1, 1) := by decide +kernel
theorem dJx4a65c_add_9ea2d_12 : decode cJx4a65c_add_9ea2d 12 = .ok (.aload_n 0, 1) := by decide +kernel
theorem dJx4a65c_add_9ea2d_13 : decode cJx4a65c_add_9ea2d 13 = .ok (.getfield 9, 3) := by decide +kernel
theorem dJx4a65c_add_9ea2d_16 : decode cJx4a65c_add_9ea2d 16 = .ok (.aload_n 0, 1) := by decide +kernel
theorem dJx4a65c_add_9ea2d_17 : decode cJx4a65c_add_9ea2d 17 = .ok (.getfield 48, 3) := by decide +kernel
theorem dJx4a65c_add_9ea2d_20 : decode cJx4a65c_add_9ea2d 20 = .ok (.invokevirtual 131, 3) := by decide +kernel
theorem dJx4a65c_add_9ea2d_23 : decode cJx4a65c_add_9ea2d 23 = .ok (.iconst 1, 1) := by decide +kernel
theorem dJx4a65c_add_9ea2d_24 : decode cJx4a65c_add_9ea2d 24 = .ok (.ireturn, 1) := by decide +kernel
theorem dJ7_copyOf_1904c_0 : decode cJ7_copyOf_1904c 0 = .ok (.aload_n 0, 1) := by decide +kernel
theorem dJ7_copyOf_1904c_1 : decode cJ7_copyOf_1904c 1 = .ok (.iload_n 1, 1) := by decide +kernel
theorem dJ7_copyOf_1904c_2 : decode cJ7_copyOf_1904c 2 = .ok (.aload_n 0, 1) := by decide +kernel
theorem dJ7_copyOf_1904c_3 : decode cJ7_copyOf_1904c 3 = .ok (.invokevirtual 86, 3) := by decide +kernel
theorem dJ7_copyOf_1904c_6 : decode cJ7_copyOf_1904c 6 = .ok (.invokestatic 300, 3) := by decide +kernel
theorem dJ7_copyOf_1904c_9 : decode cJ7_copyOf_1904c 9 = .ok (.areturn, 1) := by decide +kernel
theorem dJ7_copyOf_6403c_0 : decode cJ7_copyOf_6403c 0 = .ok (.aload_n 2, 1) := by decide +kernel
theorem dJ7_copyOf_6403c_1 : decode cJ7_copyOf_6403c 1 = .ok (.ldc 110, 2) := by decide +kernel
theorem dJ7_copyOf_6403c_3 : decode cJ7_copyOf_6403c 3 = .ok (.if_acmp .ne 10, 3) := by decide +kernel
theorem dJ7_copyOf_6403c_6 : decode cJ7_copyOf_6403c 6 = .ok (.iload_n 1, 1) := by decide +kernel
theorem dJ7_copyOf_6403c_7 : decode cJ7_copyOf_6403c 7 = .ok (.anewarray 2, 3) := by decide +kernel
theorem dJ7_copyOf_6403c_10 : decode cJ7_copyOf_6403c 10 = .ok (.goto 14, 3) := by decide +kernel
theorem dJ7_copyOf_6403c_13 : decode cJ7_copyOf_6403c 13 = .ok (.aload_n 2, 1) := by decide +kernel
theorem dJ7_copyOf_6403c_14 : decode cJ7_copyOf_6403c 14 = .ok (.invokevirtual 90, 3) := by decide +kernel
theorem dJ7_copyOf_6403c_17 : decode cJ7_copyOf_6403c 17 = .ok (.iload_n 1, 1) := by decide +kernel
theorem dJ7_copyOf_6403c_18 : decode cJ7_copyOf_6403c 18 = .ok (.invokestatic 95, 3) := by decide +kernel
theorem dJ7_copyOf_6403c_21 : decode cJ7_copyOf_6403c 21 = .ok (.checkcast 110, 3) := by decide +kernel
theorem dJ7_copyOf_6403c_24 : decode cJ7_copyOf_6403c 24 = .ok (.astore_n 3, 1) := by decide +kernel
theorem dJ7_copyOf_6403c_25 : decode cJ7_copyOf_6403c 25 = .ok (.aload_n 0, 1) := by decide +kernel
theorem dJ7_copyOf_6403c_26 : decode cJ7_copyOf_6403c 26 = .ok (.iconst 0, 1) := by decide +kernel
theorem dJ7_copyOf_6403c_27 : decode cJ7_copyOf_6403c 27 = .ok (.aload_n 3, 1) := by decide +kernel
theorem dJ7_copyOf_6403c_28 : decode cJ7_copyOf_6403c 28 = .ok (.iconst 0, 1) := by decide +kernel
theorem dJ7_copyOf_6403c_29 : decode cJ7_copyOf_6403c 29 = .ok (.aload_n 0, 1) := by decide +kernel
theorem dJ7_copyOf_6403c_30 : decode cJ7_copyOf_6403c 30 = .ok (.arraylength, 1) := by decide +kernel
theorem dJ7_copyOf_6403c_31 : decode cJ7_copyOf_6403c 31 = .ok (.iload_n 1, 1) := by decide +kernel
theorem dJ7_copyOf_6403c_32 : decode cJ7_copyOf_6403c 32 = .ok (.invokestatic 304, 3) := by decide +kernel
theorem dJ7_copyOf_6403c_35 : decode cJ7_copyOf_6403c 35 = .ok (.invokestatic 150, 3) := by decide +kernel
theorem dJ7_copyOf_6403c_38 : decode cJ7_copyOf_6403c 38 = .ok (.aload_n 3, 1) := by decide +kernel
theorem dJ7_copyOf_6403c_39 : decode cJ7_copyOf_6403c 39 = .ok (.areturn, 1) := by decide +kernel
theorem dJ15_checkIndex_7cf53_0 : decode cJ15_checkIndex_7cf53 0 = .ok (.iload_n 0, 1) := by decide +kernel
theorem dJ15_checkIndex_7cf53_1 : decode cJ15_checkIndex_7cf53 1 = .ok (.iload_n 1, 1) := by decide +kernel
theorem dJ15_checkIndex_7cf53_2 : decode cJ15_checkIndex_7cf53 2 = .ok (.aconst_null, 1) := by decide +kernel
theorem dJ15_checkIndex_7cf53_3 : decode cJ15_checkIndex_7cf53 3 = .ok (.invokestatic 105, 3) := by decide +kernel
theorem dJ15_checkIndex_7cf53_6 : decode cJ15_checkIndex_7cf53 6 = .ok (.ireturn, 1) := by decide +kernel
theorem dJ8_newLength_cabcc_0 : decode cJ8_newLength_cabcc 0 = .ok (.iload_n 0, 1) := by decide +kernel
theorem dJ8_newLength_cabcc_1 : decode cJ8_newLength_cabcc 1 = .ok (.iload_n 1, 1) := by decide +kernel
theorem dJ8_newLength_cabcc_2 : decode cJ8_newLength_cabcc 2 = .ok (.iload_n 2, 1) := by decide +kernel
theorem dJ8_newLength_cabcc_3 : decode cJ8_newLength_cabcc 3 = .ok (.invokestatic 194, 3) := by decide +kernel
theorem dJ8_newLength_cabcc_6 : decode cJ8_newLength_cabcc 6 = .ok (.iadd, 1) := by decide +kernel
theorem dJ8_newLength_cabcc_7 : decode cJ8_newLength_cabcc 7 = .ok (.istore_n 3, 1) := by decide +kernel
theorem dJ8_newLength_cabcc_8 : decode cJ8_newLength_cabcc 8 = .ok (.iconst 0, 1) := by decide +kernel
theorem dJ8_newLength_cabcc_9 : decode cJ8_newLength_cabcc 9 = .ok (.iload_n 3, 1) := by decide +kernel
theorem dJ8_newLength_cabcc_10 : decode cJ8_newLength_cabcc 10 = .ok (.if_icmp .ge 11, 3) := by decide +kernel
theorem dJ8_newLength_cabcc_13 : decode cJ8_newLength_cabcc 13 = .ok (.iload_n 3, 1) := by decide +kernel
theorem dJ8_newLength_cabcc_14 : decode cJ8_newLength_cabcc 14 = .ok (.ldc 200, 2) := by decide +kernel
theorem dJ8_newLength_cabcc_16 : decode cJ8_newLength_cabcc 16 = .ok (.if_icmp .gt 5, 3) := by decide +kernel
theorem dJ8_newLength_cabcc_19 : decode cJ8_newLength_cabcc 19 = .ok (.iload_n 3, 1) := by decide +kernel
theorem dJ8_newLength_cabcc_20 : decode cJ8_newLength_cabcc 20 = .ok (.ireturn, 1) := by decide +kernel
theorem dJ8_newLength_cabcc_21 : decode cJ8_newLength_cabcc 21 = .ok (.iload_n 0, 1) := by decide +kernel
theorem dJ8_newLength_cabcc_22 : decode cJ8_newLength_cabcc 22 = .ok (.iload_n 1, 1) := by decide +kernel
theorem dJ8_newLength_cabcc_23 : decode cJ8_newLength_cabcc 23 = .ok (.invokestatic 201, 3) := by decide +kernel
theorem dJ8_newLength_cabcc_26 : decode cJ8_newLength_cabcc 26 = .ok (.ireturn, 1) := by decide +kernel
theorem dJ8_hugeLength_7cf53_0 : decode cJ8_hugeLength_7cf53 0 = .ok (.iload_n 0, 1) := by decide +kernel
theorem dJ8_hugeLength_7cf53_1 : decode cJ8_hugeLength_7cf53 1 = .ok (.iload_n 1, 1) := by decide +kernel
theorem dJ8_hugeLength_7cf53_2 : decode cJ8_hugeLength_7cf53 2 = .ok (.iadd, 1) := by decide +kernel
theorem dJ8_hugeLength_7cf53_3 : decode cJ8_hugeLength_7cf53 3 = .ok (.istore_n 2, 1) := by decide +kernel
theorem dJ8_hugeLength_7cf53_4 : decode cJ8_hugeLength_7cf53 4 = .ok (.iload_n 2, 1) := by decide +kernel
theorem dJ8_hugeLength_7cf53_5 : decode cJ8_hugeLength_7cf53 5 = .ok (.ifCond .ge 44, 3) := by decide +kernel
theorem dJ8_hugeLength_7cf53_8 : decode cJ8_hugeLength_7cf53 8 = .ok (.new 204, 3) := by decide +kernel
theorem dJ8_hugeLength_7cf53_11 : decode cJ8_hugeLength_7cf53 11 = .ok (.dup, 1) := by decide +kernel
theorem dJ8_hugeLength_7cf53_12 : decode cJ8_hugeLength_7cf53 12 = .ok (.new 89, 3) := by decide +kernel
theorem dJ8_hugeLength_7cf53_15 : decode cJ8_hugeLength_7cf53 15 = .ok (.dup, 1) := by decide +kernel
theorem dJ8_hugeLength_7cf53_16 : decode cJ8_hugeLength_7cf53 16 = .ok (.invokespecial 91, 3) := by decide +kernel
theorem dJ8_hugeLength_7cf53_19 : decode cJ8_hugeLength_7cf53 19 = .ok (.ldc 206, 2) := by decide +kernel
theorem dJ8_hugeLength_7cf53_21 : decode cJ8_hugeLength_7cf53 21 = .ok (.invokevirtual 94, 3) := by decide +kernel
theorem dJ8_hugeLength_7cf53_24 : decode cJ8_hugeLength_7cf53 24 = .ok (.iload_n 0, 1) := by decide +kernel
theorem dJ8_hugeLength_7cf53_25 : decode cJ8_hugeLength_7cf53 25 = .ok (.invokevirtual 98, 3) := by decide +kernel
theorem dJ8_hugeLength_7cf53_28 : decode cJ8_hugeLength_7cf53 28 = .ok (.ldc 208, 2) := by decide +kernel
theorem dJ8_hugeLength_7cf53_30 : decode cJ8_hugeLength_7cf53 30 = .ok (.invokevirtual 94, 3) := by decide +kernel
theorem dJ8_hugeLength_7cf53_33 : decode cJ8_hugeLength_7cf53 33 = .ok (.iload_n 1, 1) := by decide +kernel
theorem dJ8_hugeLength_7cf53_34 : decode cJ8_hugeLength_7cf53 34 = .ok (.invokevirtual 98, 3) := by decide +kernel
theorem dJ8_hugeLength_7cf53_37 : decode cJ8_hugeLength_7cf53 37 = .ok (.ldc 210, 2) := by decide +kernel
theorem dJ8_hugeLength_7cf53_39 : decode cJ8_hugeLength_7cf53 39 = .ok (.invokevirtual 94, 3) := by decide +kernel
theorem dJ8_hugeLength_7cf53_42 : decode cJ8_hugeLength_7cf53 42 = .ok (.invokevirtual 101, 3) := by decide +kernel
theorem dJ8_hugeLength_7cf53_45 : decode cJ8_hugeLength_7cf53 45 = .ok (.invokespecial 212, 3) := by decide +kernel
theorem dJ8_hugeLength_7cf53_48 : decode cJ8_hugeLength_7cf53 48 = .ok (.athrow, 1) := by decide +kernel
theorem dJ8_hugeLength_7cf53_49 : decode cJ8_hugeLength_7cf53 49 = .ok (.iload_n 2, 1) := by decide +kernel
theorem dJ8_hugeLength_7cf53_50 : decode cJ8_hugeLength_7cf53 50 = .ok (.ldc 200, 2) := by decide +kernel
theorem dJ8_hugeLength_7cf53_52 : decode cJ8_hugeLength_7cf53 52 = .ok (.if_icmp .gt 6, 3) := by decide +kernel
theorem dJ8_hugeLength_7cf53_55 : decode cJ8_hugeLength_7cf53 55 = .ok (.ldc 200, 2) := by decide +kernel
theorem dJ8_hugeLength_7cf53_57 : decode cJ8_hugeLength_7cf53 57 = .ok (.ireturn, 1) := by decide +kernel
theorem dJ8_hugeLength_7cf53_58 : decode cJ8_hugeLength_7cf53 58 = .ok (.iload_n 2, 1) := by decide +kernel
theorem dJ8_hugeLength_7cf53_59 : decode cJ8_hugeLength_7cf53 59 = .ok (.ireturn, 1) := by decide +kernel
theorem dJ3_checkIndex_8e157_0 : decode cJ3_checkIndex_8e157 0 = .ok (.iload_n 0, 1) := by decide +kernel
theorem dJ3_checkIndex_8e157_1 : decode cJ3_checkIndex_8e157 1 = .ok (.ifCond .lt 8, 3) := by decide +kernel
theorem dJ3_checkIndex_8e157_4 : decode cJ3_checkIndex_8e157 4 = .ok (.iload_n 0, 1) := by decide +kernel
theorem dJ3_checkIndex_8e157_5 : decode cJ3_checkIndex_8e157 5 = .ok (.iload_n 1, 1) := by decide +kernel
theorem dJ3_checkIndex_8e157_6 : decode cJ3_checkIndex_8e157 6 = .ok (.if_icmp .lt 10, 3) := by decide +kernel
theorem dJ3_checkIndex_8e157_9 : decode cJ3_checkIndex_8e157 9 = .ok (.aload_n 2, 1) := by decide +kernel
theorem dJ3_checkIndex_8e157_10 : decode cJ3_checkIndex_8e157 10 = .ok (.iload_n 0, 1) := by decide +kernel
theorem dJ3_checkIndex_8e157_11 : decode cJ3_checkIndex_8e157 11 = .ok (.iload_n 1, 1) := by decide +kernel
theorem dJ3_checkIndex_8e157_12 : decode cJ3_checkIndex_8e157 12 = .ok (.invokestatic 95, 3) := by decide +kernel
theorem dJ3_checkIndex_8e157_15 : decode cJ3_checkIndex_8e157 15 = .ok (.athrow, 1) := by decide +kernel
theorem dJ3_checkIndex_8e157_16 : decode cJ3_checkIndex_8e157 16 = .ok (.iload_n 0, 1) := by decide +kernel
theorem dJ3_checkIndex_8e157_17 : decode cJ3_checkIndex_8e157 17 = .ok (.ireturn, 1) := by decide +kernel
theorem dJ3_checkFromToIndex_8c36e_0 : decode cJ3_checkFromToIndex_8c36e 0 = .ok (.iload_n 0, 1) := by decide +kernel
theorem dJ3_checkFromToIndex_8c36e_1 : decode cJ3_checkFromToIndex_8c36e 1 = .ok (.ifCond .lt 13, 3) := by decide +kernel
theorem dJ3_checkFromToIndex_8c36e_4 : decode cJ3_checkFromToIndex_8c36e 4 = .ok (.iload_n 0, 1) := by decide +kernel
theorem dJ3_checkFromToIndex_8c36e_5 : decode cJ3_checkFromToIndex_8c36e 5 = .ok (.iload_n 1, 1) := by decide +kernel
theorem dJ3_checkFromToIndex_8c36e_6 : decode cJ3_checkFromToIndex_8c36e 6 = .ok (.if_icmp .gt 8, 3) := by decide +kernel
theorem dJ3_checkFromToIndex_8c36e_9 : decode cJ3_checkFromToIndex_8c36e 9 = .ok (.iload_n 1, 1) := by decide +kernel
theorem dJ3_checkFromToIndex_8c36e_10 : decode cJ3_checkFromToIndex_8c36e 10 = .ok (.iload_n 2, 1) := by decide +kernel
theorem dJ3_checkFromToIndex_8c36e_11 : decode cJ3_checkFromToIndex_8c36e 11 = .ok (.if_icmp .le 11, 3) := by decide +kernel
theorem dJ3_checkFromToIndex_8c36e_14 : decode cJ3_checkFromToIndex_8c36e 14 = .ok (.aload_n 3, 1) := by decide +kernel
theorem dJ3_checkFromToIndex_8c36e_15 : decode cJ3_checkFromToIndex_8c36e 15 = .ok (.iload_n 0, 1) := by decide +kernel
theorem dJ3_checkFromToIndex_8c36e_16 : decode cJ3_checkFromToIndex_8c36e 16 = .ok (.iload_n 1, 1) := by decide +kernel
theorem dJ3_checkFromToIndex_8c36e_17 : decode cJ3_checkFromToIndex_8c36e 17 = .ok (.iload_n 2, 1) := by decide +kernel
theorem dJ3_checkFromToIndex_8c36e_18 : decode cJ3_checkFromToIndex_8c36e 18 = .ok (.invokestatic 99, 3) := by decide +kernel
theorem dJ3_checkFromToIndex_8c36e_21 : decode cJ3_checkFromToIndex_8c36e 21 = .ok (.athrow, 1) := by decide +kernel
theorem dJ3_checkFromToIndex_8c36e_22 : decode cJ3_checkFromToIndex_8c36e 22 = .ok (.iload_n 0, 1) := by decide +kernel
theorem dJ3_checkFromToIndex_8c36e_23 : decode cJ3_checkFromToIndex_8c36e 23 = .ok (.ireturn, 1) := by decide +kernel
abbrev vwCl : List vw_C := [(RJx4a65c, TJx4a65c, 3), (RX0, TX0, 16), (RX1, TX1, 6), (RX2, TX2, 3), (RX3, TX3, 7), (RX4, TX4, 6), (RX5, TX5, 26)]
end
section
theorem lw_m1 {w : Cond} (h : w ∈ tables_1_1) : w ∈ lw_tbl := List.mem_append_right _ (show w ∈ tables_1 from List.mem_append_left _ h)
theorem lw_m2 {w : Cond} (h : w ∈ tables_1_2) : w ∈ lw_tbl := List.mem_append_right _ (show w ∈ tables_1 from List.mem_append_right _ (List.mem_append_left _ h))
theorem lw_m3 {w : Cond} (h : w ∈ tables_1_3) : w ∈ lw_tbl := List.mem_append_right _ (show w ∈ tables_1 from List.mem_append_right _ (List.mem_append_right _ (List.mem_append_left _ h)))
theorem lw_m4 {w : Cond} (h : w ∈ tables_1_4) : w ∈ lw_tbl := List.mem_append_right _ (show w ∈ tables_1 from List.mem_append_right _ (List.mem_append_right _ (List.mem_append_right _ (List.mem_append_left _ h))))
theorem lw_m5 {w : Cond} (h : w ∈ tables_1_5) : w ∈ lw_tbl := List.mem_append_right _ (show w ∈ tables_1 from List.mem_append_right _ (List.mem_append_right _ (List.mem_append_right _ (List.mem_append_right _ (List.mem_append_left _ h)))))
theorem lw_m6 {w : Cond} (h : w ∈ tables_1_6) : w ∈ lw_tbl := List.mem_append_right _ (show w ∈ tables_1 from List.mem_append_right _ (List.mem_append_right _ (List.mem_append_right _ (List.mem_append_right _ (List.mem_append_right _ (h))))))
theorem lw_ms {q : MethodName × Nat} (h : q ∈ lw_privs) : Cond.selects q.1.cls q.1 q.1 ∈ lw_tbl := List.mem_append_left _ (List.mem_map.mpr ⟨q, h, rfl⟩)
theorem k_0 : (Jvm.Cond.initialized "SignatoryLaw") ∈ lw_tbl := lw_m1 (List.mem_of_getElem? (i := 0) rfl)
theorem k_1 : (Jvm.Cond.initialized "Signatory") ∈ lw_tbl := lw_m1 (List.mem_of_getElem? (i := 1) rfl)
theorem k_2 : (Jvm.Cond.initialized "java/util/AbstractCollection") ∈ lw_tbl := lw_m1 (List.mem_of_getElem? (i := 2) rfl)
theorem k_3 : (Jvm.Cond.initialized "java/util/AbstractList") ∈ lw_tbl := lw_m1 (List.mem_of_getElem? (i := 3) rfl)
theorem k_4 : (Jvm.Cond.initialized "java/util/ArrayList") ∈ lw_tbl := lw_m1 (List.mem_of_getElem? (i := 4) rfl)
theorem k_5 : (Jvm.Cond.initialized "Signatory$Moment") ∈ lw_tbl := lw_m1 (List.mem_of_getElem? (i := 5) rfl)
theorem k_6 : (Jvm.Cond.initialized "SignatoryModel") ∈ lw_tbl := lw_m1 (List.mem_of_getElem? (i := 6) rfl)
theorem k_7 : (Jvm.Cond.initialized "java/lang/Throwable") ∈ lw_tbl := lw_m1 (List.mem_of_getElem? (i := 7) rfl)
theorem k_8 : (Jvm.Cond.initialized "java/lang/Exception") ∈ lw_tbl := lw_m1 (List.mem_of_getElem? (i := 8) rfl)
theorem k_9 : (Jvm.Cond.initialized "java/lang/RuntimeException") ∈ lw_tbl := lw_m1 (List.mem_of_getElem? (i := 9) rfl)
theorem k_10 : (Jvm.Cond.initialized "java/lang/IllegalStateException") ∈ lw_tbl := lw_m1 (List.mem_of_getElem? (i := 10) rfl)
theorem k_11 : (Jvm.Cond.initialized "java/lang/IndexOutOfBoundsException") ∈ lw_tbl := lw_m1 (List.mem_of_getElem? (i := 11) rfl)
theorem k_12 : (Jvm.Cond.initialized "java/lang/IllegalArgumentException") ∈ lw_tbl := lw_m1 (List.mem_of_getElem? (i := 12) rfl)
theorem k_13 : (Jvm.Cond.initialized "Signatory$Paper") ∈ lw_tbl := lw_m1 (List.mem_of_getElem? (i := 13) rfl)
theorem k_14 : (Jvm.Cond.initialized "jdk/internal/util/ArraysSupport") ∈ lw_tbl := lw_m1 (List.mem_of_getElem? (i := 14) rfl)
theorem k_15 : (Jvm.Cond.initialized "java/lang/Math") ∈ lw_tbl := lw_m1 (List.mem_of_getElem? (i := 15) rfl)
theorem k_16 : (Jvm.Cond.initialized "java/util/Arrays") ∈ lw_tbl := lw_m1 (List.mem_of_getElem? (i := 16) rfl)
theorem k_17 : (Jvm.Cond.initialized "java/lang/System") ∈ lw_tbl := lw_m1 (List.mem_of_getElem? (i := 17) rfl)
theorem k_18 : (Jvm.Cond.initialized "Signatory$Power") ∈ lw_tbl := lw_m1 (List.mem_of_getElem? (i := 18) rfl)
theorem k_19 : (Jvm.Cond.initialized "java/util/Objects") ∈ lw_tbl := lw_m1 (List.mem_of_getElem? (i := 19) rfl)
theorem k_20 : (Jvm.Cond.initialized "jdk/internal/util/Preconditions") ∈ lw_tbl := lw_m1 (List.mem_of_getElem? (i := 20) rfl)
theorem k_21 : (Jvm.Cond.initialized "java/lang/UnsupportedOperationException") ∈ lw_tbl := lw_m1 (List.mem_of_getElem? (i := 21) rfl)
theorem k_22 : (Jvm.Cond.initialized "java/util/NoSuchElementException") ∈ lw_tbl := lw_m1 (List.mem_of_getElem? (i := 22) rfl)
theorem k_23 : (Jvm.Cond.initialized "Signatory$Deed") ∈ lw_tbl := lw_m1 (List.mem_of_getElem? (i := 23) rfl)
theorem k_24 : (Jvm.Cond.initialized "java/lang/String") ∈ lw_tbl := lw_m1 (List.mem_of_getElem? (i := 24) rfl)
theorem k_25 : (Jvm.Cond.initialized "java/lang/StringLatin1") ∈ lw_tbl := lw_m1 (List.mem_of_getElem? (i := 25) rfl)
theorem k_26 : (Jvm.Cond.initialized "java/lang/StringUTF16") ∈ lw_tbl := lw_m1 (List.mem_of_getElem? (i := 26) rfl)
theorem k_27 : (Jvm.Cond.initialized "java/lang/Character") ∈ lw_tbl := lw_m1 (List.mem_of_getElem? (i := 27) rfl)
theorem k_28 : (Jvm.Cond.classLink "SignatoryLaw" (8 : Nat) "Signatory") ∈ lw_tbl := lw_m1 (List.mem_of_getElem? (i := 28) rfl)
theorem k_29 : (Jvm.Cond.instantiable "Signatory" (6 : Nat)) ∈ lw_tbl := lw_m1 (List.mem_of_getElem? (i := 29) rfl)
theorem k_30 : (Jvm.Cond.methodLink "SignatoryLaw" (131 : Nat) ({ cls := "Signatory", name := "<init>", desc := "()V" } : Jvm.MethodName)) ∈ lw_tbl := lw_m1 (List.mem_of_getElem? (i := 30) rfl)
theorem k_31 : (Jvm.Cond.instanceMethod ({ cls := "Signatory", name := "<init>", desc := "()V" } : Jvm.MethodName)) ∈ lw_tbl := lw_m1 (List.mem_of_getElem? (i := 31) rfl)
theorem k_32 : (Jvm.Cond.code ({ cls := "Signatory", name := "<init>", desc := "()V" } : Jvm.MethodName) prog_1_method_1_code (1 : Nat) (Option.none : Option Jvm.ClassFile.FieldType)) ∈ lw_tbl := lw_m1 (List.mem_of_getElem? (i := 32) rfl)
theorem k_33 : (Jvm.Cond.methodLink "Signatory" (1 : Nat) ({ cls := "java/lang/Object", name := "<init>", desc := "()V" } : Jvm.MethodName)) ∈ lw_tbl := lw_m1 (List.mem_of_getElem? (i := 33) rfl)
theorem k_34 : (Jvm.Cond.instanceMethod ({ cls := "java/lang/Object", name := "<init>", desc := "()V" } : Jvm.MethodName)) ∈ lw_tbl := lw_m1 (List.mem_of_getElem? (i := 34) rfl)
theorem k_35 : (Jvm.Cond.code ({ cls := "java/lang/Object", name := "<init>", desc := "()V" } : Jvm.MethodName) object_method_1_code (1 : Nat) (Option.none : Option Jvm.ClassFile.FieldType)) ∈ lw_tbl := lw_m1 (List.mem_of_getElem? (i := 35) rfl)
theorem k_36 : (Jvm.Cond.classLink "Signatory" (7 : Nat) "java/util/ArrayList") ∈ lw_tbl := lw_m1 (List.mem_of_getElem? (i := 36) rfl)
theorem k_37 : (Jvm.Cond.instantiable "java/util/ArrayList" (3 : Nat)) ∈ lw_tbl := lw_m1 (List.mem_of_getElem? (i := 37) rfl)
theorem k_38 : (Jvm.Cond.methodLink "Signatory" (9 : Nat) ({ cls := "java/util/ArrayList", name := "<init>", desc := "()V" } : Jvm.MethodName)) ∈ lw_tbl := lw_m1 (List.mem_of_getElem? (i := 38) rfl)
theorem k_39 : (Jvm.Cond.instanceMethod ({ cls := "java/util/ArrayList", name := "<init>", desc := "()V" } : Jvm.MethodName)) ∈ lw_tbl := lw_m1 (List.mem_of_getElem? (i := 39) rfl)
theorem k_40 : (Jvm.Cond.code ({ cls := "java/util/ArrayList", name := "<init>", desc := "()V" } : Jvm.MethodName) prog_30_method_2_code (1 : Nat) (Option.none : Option Jvm.ClassFile.FieldType)) ∈ lw_tbl := lw_m1 (List.mem_of_getElem? (i := 40) rfl)
theorem k_41 : (Jvm.Cond.methodLink "java/util/ArrayList" (1 : Nat) ({ cls := "java/util/AbstractList", name := "<init>", desc := "()V" } : Jvm.MethodName)) ∈ lw_tbl := lw_m1 (List.mem_of_getElem? (i := 41) rfl)
theorem k_42 : (Jvm.Cond.instanceMethod ({ cls := "java/util/AbstractList", name := "<init>", desc := "()V" } : Jvm.MethodName)) ∈ lw_tbl := lw_m1 (List.mem_of_getElem? (i := 42) rfl)
theorem k_43 : (Jvm.Cond.code ({ cls := "java/util/AbstractList", name := "<init>", desc := "()V" } : Jvm.MethodName) prog_29_method_1_code (1 : Nat) (Option.none : Option Jvm.ClassFile.FieldType)) ∈ lw_tbl := lw_m1 (List.mem_of_getElem? (i := 43) rfl)
theorem k_44 : (Jvm.Cond.methodLink "java/util/AbstractList" (1 : Nat) ({ cls := "java/util/AbstractCollection", name := "<init>", desc := "()V" } : Jvm.MethodName)) ∈ lw_tbl := lw_m1 (List.mem_of_getElem? (i := 44) rfl)
theorem k_45 : (Jvm.Cond.instanceMethod ({ cls := "java/util/AbstractCollection", name := "<init>", desc := "()V" } : Jvm.MethodName)) ∈ lw_tbl := lw_m1 (List.mem_of_getElem? (i := 45) rfl)
theorem k_46 : (Jvm.Cond.code ({ cls := "java/util/AbstractCollection", name := "<init>", desc := "()V" } : Jvm.MethodName) prog_28_method_1_code (1 : Nat) (Option.none : Option Jvm.ClassFile.FieldType)) ∈ lw_tbl := lw_m1 (List.mem_of_getElem? (i := 46) rfl)
theorem k_47 : (Jvm.Cond.methodLink "java/util/AbstractCollection" (1 : Nat) ({ cls := "java/lang/Object", name := "<init>", desc := "()V" } : Jvm.MethodName)) ∈ lw_tbl := lw_m1 (List.mem_of_getElem? (i := 47) rfl)
theorem k_48 : (Jvm.Cond.fieldLink "java/util/ArrayList" (39 : Nat) "java/util/ArrayList" "DEFAULTCAPACITY_EMPTY_ELEMENTDATA" "[Ljava/lang/Object;") ∈ lw_tbl := lw_m1 (List.mem_of_getElem? (i := 48) rfl)
theorem k_49 : (Jvm.Cond.laysStatic "java/util/ArrayList" "DEFAULTCAPACITY_EMPTY_ELEMENTDATA" "[Ljava/lang/Object;") ∈ lw_tbl := lw_m1 (List.mem_of_getElem? (i := 49) rfl)
theorem k_50 : (Jvm.Cond.fieldLink "java/util/ArrayList" (9 : Nat) "java/util/ArrayList" "elementData" "[Ljava/lang/Object;") ∈ lw_tbl := lw_m1 (List.mem_of_getElem? (i := 50) rfl)
theorem k_51 : (Jvm.Cond.fieldLink "java/util/ArrayList" (48 : Nat) "java/util/ArrayList" "size" "I") ∈ lw_tbl := lw_m1 (List.mem_of_getElem? (i := 51) rfl)
theorem k_52 : (Jvm.Cond.fieldLink "java/util/AbstractList" (7 : Nat) "java/util/AbstractList" "modCount" "I") ∈ lw_tbl := lw_m1 (List.mem_of_getElem? (i := 52) rfl)
theorem k_53 : (Jvm.Cond.fieldLink "java/util/ArrayList" (63 : Nat) "java/util/ArrayList" "modCount" "I") ∈ lw_tbl := lw_m1 (List.mem_of_getElem? (i := 53) rfl)
theorem k_54 : (Jvm.Cond.sameField "java/util/ArrayList" "java/util/AbstractList" "modCount" "I") ∈ lw_tbl := lw_m1 (List.mem_of_getElem? (i := 54) rfl)
theorem k_55 : (Jvm.Cond.lays "java/util/ArrayList" "java/util/ArrayList" "elementData" "[Ljava/lang/Object;") ∈ lw_tbl := lw_m1 (List.mem_of_getElem? (i := 55) rfl)
theorem k_56 : (Jvm.Cond.soleField "java/util/ArrayList" "elementData") ∈ lw_tbl := lw_m1 (List.mem_of_getElem? (i := 56) rfl)
theorem k_57 : (Jvm.Cond.lays "java/util/ArrayList" "java/util/ArrayList" "size" "I") ∈ lw_tbl := lw_m1 (List.mem_of_getElem? (i := 57) rfl)
theorem k_58 : (Jvm.Cond.soleField "java/util/ArrayList" "size") ∈ lw_tbl := lw_m1 (List.mem_of_getElem? (i := 58) rfl)
theorem k_59 : (Jvm.Cond.lays "java/util/ArrayList" "java/util/AbstractList" "modCount" "I") ∈ lw_tbl := lw_m1 (List.mem_of_getElem? (i := 59) rfl)
theorem k_60 : (Jvm.Cond.soleField "java/util/AbstractList" "modCount") ∈ lw_tbl := lw_m1 (List.mem_of_getElem? (i := 60) rfl)
theorem k_61 : (Jvm.Cond.superclass "java/util/ArrayList" "java/util/AbstractList") ∈ lw_tbl := lw_m1 (List.mem_of_getElem? (i := 61) rfl)
theorem k_62 : (Jvm.Cond.classLink "Signatory" (22 : Nat) "Signatory$Moment") ∈ lw_tbl := lw_m1 (List.mem_of_getElem? (i := 62) rfl)
theorem k_63 : (Jvm.Cond.instantiable "Signatory$Moment" (6 : Nat)) ∈ lw_tbl := lw_m1 (List.mem_of_getElem? (i := 63) rfl)
theorem k_64 : (Jvm.Cond.methodLink "Signatory" (24 : Nat) ({ cls := "Signatory$Moment", name := "<init>", desc := "()V" } : Jvm.MethodName)) ∈ lw_tbl := lw_m1 (List.mem_of_getElem? (i := 64) rfl)
theorem k_65 : (Jvm.Cond.instanceMethod ({ cls := "Signatory$Moment", name := "<init>", desc := "()V" } : Jvm.MethodName)) ∈ lw_tbl := lw_m1 (List.mem_of_getElem? (i := 65) rfl)
theorem k_66 : (Jvm.Cond.code ({ cls := "Signatory$Moment", name := "<init>", desc := "()V" } : Jvm.MethodName) prog_3_method_1_code (1 : Nat) (Option.none : Option Jvm.ClassFile.FieldType)) ∈ lw_tbl := lw_m1 (List.mem_of_getElem? (i := 66) rfl)
theorem k_67 : (Jvm.Cond.methodLink "Signatory$Moment" (3 : Nat) ({ cls := "java/lang/Object", name := "<init>", desc := "()V" } : Jvm.MethodName)) ∈ lw_tbl := lw_m1 (List.mem_of_getElem? (i := 67) rfl)
theorem k_68 : (Jvm.Cond.methodLink "Signatory$Moment" (25 : Nat) ({ cls := "Signatory$Moment", name := "forget", desc := "()V" } : Jvm.MethodName)) ∈ lw_tbl := lw_m1 (List.mem_of_getElem? (i := 68) rfl)
theorem k_69 : (Jvm.Cond.instanceMethod ({ cls := "Signatory$Moment", name := "forget", desc := "()V" } : Jvm.MethodName)) ∈ lw_tbl := lw_m1 (List.mem_of_getElem? (i := 69) rfl)
theorem k_70 : (Jvm.Cond.selects "Signatory$Moment" ({ cls := "Signatory$Moment", name := "forget", desc := "()V" } : Jvm.MethodName) ({ cls := "Signatory$Moment", name := "forget", desc := "()V" } : Jvm.MethodName)) ∈ lw_tbl := lw_m1 (List.mem_of_getElem? (i := 70) rfl)
theorem k_71 : (Jvm.Cond.code ({ cls := "Signatory$Moment", name := "forget", desc := "()V" } : Jvm.MethodName) prog_3_method_2_code (2 : Nat) (Option.none : Option Jvm.ClassFile.FieldType)) ∈ lw_tbl := lw_m1 (List.mem_of_getElem? (i := 71) rfl)
theorem k_72 : (Jvm.Cond.fieldLink "Signatory$Moment" (9 : Nat) "Signatory$Moment" "limits" "[I") ∈ lw_tbl := lw_m1 (List.mem_of_getElem? (i := 72) rfl)
theorem k_73 : (Jvm.Cond.fieldLink "Signatory$Moment" (15 : Nat) "Signatory$Moment" "revoked" "[Z") ∈ lw_tbl := lw_m1 (List.mem_of_getElem? (i := 73) rfl)
theorem k_74 : (Jvm.Cond.fieldLink "Signatory$Moment" (19 : Nat) "Signatory$Moment" "substitutes" "[I") ∈ lw_tbl := lw_m1 (List.mem_of_getElem? (i := 74) rfl)
theorem k_75 : (Jvm.Cond.fieldLink "Signatory$Moment" (22 : Nat) "Signatory$Moment" "annulled" "[Z") ∈ lw_tbl := lw_m1 (List.mem_of_getElem? (i := 75) rfl)
theorem k_76 : (Jvm.Cond.fieldLink "Signatory$Moment" (28 : Nat) "Signatory$Moment" "window" "I") ∈ lw_tbl := lw_m1 (List.mem_of_getElem? (i := 76) rfl)
theorem k_77 : (Jvm.Cond.fieldLink "Signatory" (272 : Nat) "Signatory$Moment" "window" "I") ∈ lw_tbl := lw_m1 (List.mem_of_getElem? (i := 77) rfl)
theorem k_78 : (Jvm.Cond.fieldLink "Signatory$Moment" (32 : Nat) "Signatory$Moment" "day" "I") ∈ lw_tbl := lw_m1 (List.mem_of_getElem? (i := 78) rfl)
theorem k_79 : (Jvm.Cond.fieldLink "Signatory" (222 : Nat) "Signatory$Moment" "day" "I") ∈ lw_tbl := lw_m1 (List.mem_of_getElem? (i := 79) rfl)
theorem k_80 : (Jvm.Cond.laysFinal "Signatory$Moment" "Signatory$Moment" "limits" "[I") ∈ lw_tbl := lw_m1 (List.mem_of_getElem? (i := 80) rfl)
theorem k_81 : (Jvm.Cond.soleField "Signatory$Moment" "limits") ∈ lw_tbl := lw_m1 (List.mem_of_getElem? (i := 81) rfl)
theorem k_82 : (Jvm.Cond.laysFinal "Signatory$Moment" "Signatory$Moment" "revoked" "[Z") ∈ lw_tbl := lw_m1 (List.mem_of_getElem? (i := 82) rfl)
theorem k_83 : (Jvm.Cond.soleField "Signatory$Moment" "revoked") ∈ lw_tbl := lw_m1 (List.mem_of_getElem? (i := 83) rfl)
theorem k_84 : (Jvm.Cond.laysFinal "Signatory$Moment" "Signatory$Moment" "substitutes" "[I") ∈ lw_tbl := lw_m1 (List.mem_of_getElem? (i := 84) rfl)
theorem k_85 : (Jvm.Cond.soleField "Signatory$Moment" "substitutes") ∈ lw_tbl := lw_m1 (List.mem_of_getElem? (i := 85) rfl)
theorem k_86 : (Jvm.Cond.laysFinal "Signatory$Moment" "Signatory$Moment" "annulled" "[Z") ∈ lw_tbl := lw_m1 (List.mem_of_getElem? (i := 86) rfl)
theorem k_87 : (Jvm.Cond.soleField "Signatory$Moment" "annulled") ∈ lw_tbl := lw_m1 (List.mem_of_getElem? (i := 87) rfl)
theorem k_88 : (Jvm.Cond.lays "Signatory$Moment" "Signatory$Moment" "window" "I") ∈ lw_tbl := lw_m1 (List.mem_of_getElem? (i := 88) rfl)
theorem k_89 : (Jvm.Cond.soleField "Signatory$Moment" "window") ∈ lw_tbl := lw_m1 (List.mem_of_getElem? (i := 89) rfl)
theorem k_90 : (Jvm.Cond.lays "Signatory$Moment" "Signatory$Moment" "day" "I") ∈ lw_tbl := lw_m1 (List.mem_of_getElem? (i := 90) rfl)
theorem k_91 : (Jvm.Cond.soleField "Signatory$Moment" "day") ∈ lw_tbl := lw_m1 (List.mem_of_getElem? (i := 91) rfl)
theorem k_92 : (Jvm.Cond.superclass "Signatory$Moment" "java/lang/Object") ∈ lw_tbl := lw_m1 (List.mem_of_getElem? (i := 92) rfl)
theorem k_93 : (Jvm.Cond.arrayClass Jvm.ClassFile.FieldType.int) ∈ lw_tbl := lw_m1 (List.mem_of_getElem? (i := 93) rfl)
theorem k_94 : (Jvm.Cond.arrayClass Jvm.ClassFile.FieldType.boolean) ∈ lw_tbl := lw_m1 (List.mem_of_getElem? (i := 94) rfl)
theorem k_95 : (Jvm.Cond.fieldLink "Signatory" (10 : Nat) "Signatory" "powers" "Ljava/util/List;") ∈ lw_tbl := lw_m1 (List.mem_of_getElem? (i := 95) rfl)
theorem k_96 : (Jvm.Cond.fieldLink "Signatory" (16 : Nat) "Signatory" "deeds" "Ljava/util/List;") ∈ lw_tbl := lw_m1 (List.mem_of_getElem? (i := 96) rfl)
theorem k_97 : (Jvm.Cond.fieldLink "Signatory" (19 : Nat) "Signatory" "papers" "Ljava/util/List;") ∈ lw_tbl := lw_m1 (List.mem_of_getElem? (i := 97) rfl)
theorem k_98 : (Jvm.Cond.fieldLink "Signatory" (25 : Nat) "Signatory" "now" "LSignatory$Moment;") ∈ lw_tbl := lw_m1 (List.mem_of_getElem? (i := 98) rfl)
theorem k_99 : (Jvm.Cond.fieldLink "Signatory" (29 : Nat) "Signatory" "past" "LSignatory$Moment;") ∈ lw_tbl := lw_m1 (List.mem_of_getElem? (i := 99) rfl)
theorem k_100 : (Jvm.Cond.fieldLink "Signatory" (32 : Nat) "Signatory" "personCount" "I") ∈ lw_tbl := lw_m1 (List.mem_of_getElem? (i := 100) rfl)
theorem k_101 : (Jvm.Cond.laysFinal "Signatory" "Signatory" "powers" "Ljava/util/List;") ∈ lw_tbl := lw_m1 (List.mem_of_getElem? (i := 101) rfl)
theorem k_102 : (Jvm.Cond.soleField "Signatory" "powers") ∈ lw_tbl := lw_m1 (List.mem_of_getElem? (i := 102) rfl)
theorem k_103 : (Jvm.Cond.laysFinal "Signatory" "Signatory" "deeds" "Ljava/util/List;") ∈ lw_tbl := lw_m1 (List.mem_of_getElem? (i := 103) rfl)
theorem k_104 : (Jvm.Cond.soleField "Signatory" "deeds") ∈ lw_tbl := lw_m1 (List.mem_of_getElem? (i := 104) rfl)
theorem k_105 : (Jvm.Cond.laysFinal "Signatory" "Signatory" "papers" "Ljava/util/List;") ∈ lw_tbl := lw_m1 (List.mem_of_getElem? (i := 105) rfl)
theorem k_106 : (Jvm.Cond.soleField "Signatory" "papers") ∈ lw_tbl := lw_m1 (List.mem_of_getElem? (i := 106) rfl)
theorem k_107 : (Jvm.Cond.laysFinal "Signatory" "Signatory" "now" "LSignatory$Moment;") ∈ lw_tbl := lw_m1 (List.mem_of_getElem? (i := 107) rfl)
theorem k_108 : (Jvm.Cond.soleField "Signatory" "now") ∈ lw_tbl := lw_m1 (List.mem_of_getElem? (i := 108) rfl)
theorem k_109 : (Jvm.Cond.laysFinal "Signatory" "Signatory" "past" "LSignatory$Moment;") ∈ lw_tbl := lw_m1 (List.mem_of_getElem? (i := 109) rfl)
theorem k_110 : (Jvm.Cond.soleField "Signatory" "past") ∈ lw_tbl := lw_m1 (List.mem_of_getElem? (i := 110) rfl)
theorem k_111 : (Jvm.Cond.lays "Signatory" "Signatory" "personCount" "I") ∈ lw_tbl := lw_m1 (List.mem_of_getElem? (i := 111) rfl)
theorem k_112 : (Jvm.Cond.soleField "Signatory" "personCount") ∈ lw_tbl := lw_m1 (List.mem_of_getElem? (i := 112) rfl)
theorem k_113 : (Jvm.Cond.superclass "Signatory" "java/lang/Object") ∈ lw_tbl := lw_m1 (List.mem_of_getElem? (i := 113) rfl)
theorem k_114 : (Jvm.Cond.methodLink "SignatoryLaw" (243 : Nat) ({ cls := "Signatory", name := "today", desc := "()I" } : Jvm.MethodName)) ∈ lw_tbl := lw_m1 (List.mem_of_getElem? (i := 114) rfl)
theorem k_115 : (Jvm.Cond.instanceMethod ({ cls := "Signatory", name := "today", desc := "()I" } : Jvm.MethodName)) ∈ lw_tbl := lw_m1 (List.mem_of_getElem? (i := 115) rfl)
theorem k_116 : (Jvm.Cond.selects "Signatory" ({ cls := "Signatory", name := "today", desc := "()I" } : Jvm.MethodName) ({ cls := "Signatory", name := "today", desc := "()I" } : Jvm.MethodName)) ∈ lw_tbl := lw_m1 (List.mem_of_getElem? (i := 116) rfl)
theorem k_117 : (Jvm.Cond.code ({ cls := "Signatory", name := "today", desc := "()I" } : Jvm.MethodName) prog_1_method_34_code (1 : Nat) (Option.some Jvm.ClassFile.FieldType.int)) ∈ lw_tbl := lw_m1 (List.mem_of_getElem? (i := 117) rfl)
theorem k_118 : (Jvm.Cond.methodLink "SignatoryLaw" (247 : Nat) ({ cls := "Signatory", name := "bound", desc := "()J" } : Jvm.MethodName)) ∈ lw_tbl := lw_m1 (List.mem_of_getElem? (i := 118) rfl)
theorem k_119 : (Jvm.Cond.instanceMethod ({ cls := "Signatory", name := "bound", desc := "()J" } : Jvm.MethodName)) ∈ lw_tbl := lw_m1 (List.mem_of_getElem? (i := 119) rfl)
theorem k_120 : (Jvm.Cond.selects "Signatory" ({ cls := "Signatory", name := "bound", desc := "()J" } : Jvm.MethodName) ({ cls := "Signatory", name := "bound", desc := "()J" } : Jvm.MethodName)) ∈ lw_tbl := lw_m1 (List.mem_of_getElem? (i := 120) rfl)
theorem k_121 : (Jvm.Cond.code ({ cls := "Signatory", name := "bound", desc := "()J" } : Jvm.MethodName) prog_1_method_35_code (5 : Nat) (Option.some Jvm.ClassFile.FieldType.long)) ∈ lw_tbl := lw_m1 (List.mem_of_getElem? (i := 121) rfl)
theorem k_122 : (Jvm.Cond.interfaceEntry "Signatory" (86 : Nat)) ∈ lw_tbl := lw_m1 (List.mem_of_getElem? (i := 122) rfl)
theorem k_123 : (Jvm.Cond.methodLink "Signatory" (86 : Nat) ({ cls := "java/util/List", name := "size", desc := "()I" } : Jvm.MethodName)) ∈ lw_tbl := lw_m1 (List.mem_of_getElem? (i := 123) rfl)
theorem k_124 : (Jvm.Cond.interfaceMethod "java/util/List" "java/util/List" "size" "()I") ∈ lw_tbl := lw_m1 (List.mem_of_getElem? (i := 124) rfl)
theorem k_125 : (Jvm.Cond.declares ({ cls := "java/util/List", name := "size", desc := "()I" } : Jvm.MethodName)) ∈ lw_tbl := lw_m1 (List.mem_of_getElem? (i := 125) rfl)
theorem k_126 : (Jvm.Cond.castable "java/util/ArrayList" "java/util/List") ∈ lw_tbl := lw_m1 (List.mem_of_getElem? (i := 126) rfl)
theorem k_127 : (Jvm.Cond.selects "java/util/ArrayList" ({ cls := "java/util/List", name := "size", desc := "()I" } : Jvm.MethodName) ({ cls := "java/util/ArrayList", name := "size", desc := "()I" } : Jvm.MethodName)) ∈ lw_tbl := lw_m1 (List.mem_of_getElem? (i := 127) rfl)
theorem k_128 : (Jvm.Cond.unhidden "java/util/ArrayList" "size" "()I") ∈ lw_tbl := lw_m1 (List.mem_of_getElem? (i := 128) rfl)
theorem k_129 : (Jvm.Cond.instanceMethod ({ cls := "java/util/ArrayList", name := "size", desc := "()I" } : Jvm.MethodName)) ∈ lw_tbl := lw_m1 (List.mem_of_getElem? (i := 129) rfl)
theorem k_130 : (Jvm.Cond.publicMethod ({ cls := "java/util/ArrayList", name := "size", desc := "()I" } : Jvm.MethodName)) ∈ lw_tbl := lw_m1 (List.mem_of_getElem? (i := 130) rfl)
theorem k_131 : (Jvm.Cond.code ({ cls := "java/util/ArrayList", name := "size", desc := "()I" } : Jvm.MethodName) prog_30_method_8_code (1 : Nat) (Option.some Jvm.ClassFile.FieldType.int)) ∈ lw_tbl := lw_m1 (List.mem_of_getElem? (i := 131) rfl)
theorem k_132 : (Jvm.Cond.interfaceEntry "Signatory" (277 : Nat)) ∈ lw_tbl := lw_m1 (List.mem_of_getElem? (i := 132) rfl)
theorem k_133 : (Jvm.Cond.methodLink "Signatory" (277 : Nat) ({ cls := "java/util/List", name := "get", desc := "(I)Ljava/lang/Object;" } : Jvm.MethodName)) ∈ lw_tbl := lw_m1 (List.mem_of_getElem? (i := 133) rfl)
theorem k_134 : (Jvm.Cond.interfaceMethod "java/util/List" "java/util/List" "get" "(I)Ljava/lang/Object;") ∈ lw_tbl := lw_m1 (List.mem_of_getElem? (i := 134) rfl)
theorem k_135 : (Jvm.Cond.declares ({ cls := "java/util/List", name := "get", desc := "(I)Ljava/lang/Object;" } : Jvm.MethodName)) ∈ lw_tbl := lw_m1 (List.mem_of_getElem? (i := 135) rfl)
theorem k_136 : (Jvm.Cond.selects "java/util/ArrayList" ({ cls := "java/util/List", name := "get", desc := "(I)Ljava/lang/Object;" } : Jvm.MethodName) ({ cls := "java/util/ArrayList", name := "get", desc := "(I)Ljava/lang/Object;" } : Jvm.MethodName)) ∈ lw_tbl := lw_m1 (List.mem_of_getElem? (i := 136) rfl)
theorem k_137 : (Jvm.Cond.unhidden "java/util/ArrayList" "get" "(I)Ljava/lang/Object;") ∈ lw_tbl := lw_m1 (List.mem_of_getElem? (i := 137) rfl)
theorem k_138 : (Jvm.Cond.instanceMethod ({ cls := "java/util/ArrayList", name := "get", desc := "(I)Ljava/lang/Object;" } : Jvm.MethodName)) ∈ lw_tbl := lw_m1 (List.mem_of_getElem? (i := 138) rfl)
theorem k_139 : (Jvm.Cond.publicMethod ({ cls := "java/util/ArrayList", name := "get", desc := "(I)Ljava/lang/Object;" } : Jvm.MethodName)) ∈ lw_tbl := lw_m1 (List.mem_of_getElem? (i := 139) rfl)
theorem k_140 : (Jvm.Cond.code ({ cls := "java/util/ArrayList", name := "get", desc := "(I)Ljava/lang/Object;" } : Jvm.MethodName) prog_30_method_20_code (2 : Nat) (Option.some (Jvm.ClassFile.FieldType.object "java/lang/Object"))) ∈ lw_tbl := lw_m1 (List.mem_of_getElem? (i := 140) rfl)
theorem k_141 : (Jvm.Cond.methodLink "java/util/ArrayList" (118 : Nat) ({ cls := "java/util/Objects", name := "checkIndex", desc := "(II)I" } : Jvm.MethodName)) ∈ lw_tbl := lw_m1 (List.mem_of_getElem? (i := 141) rfl)
theorem k_142 : (Jvm.Cond.static ({ cls := "java/util/Objects", name := "checkIndex", desc := "(II)I" } : Jvm.MethodName)) ∈ lw_tbl := lw_m1 (List.mem_of_getElem? (i := 142) rfl)
theorem k_143 : (Jvm.Cond.code ({ cls := "java/util/Objects", name := "checkIndex", desc := "(II)I" } : Jvm.MethodName) prog_35_method_17_code (2 : Nat) (Option.some Jvm.ClassFile.FieldType.int)) ∈ lw_tbl := lw_m1 (List.mem_of_getElem? (i := 143) rfl)
theorem k_144 : (Jvm.Cond.methodLink "java/util/Objects" (105 : Nat) ({ cls := "jdk/internal/util/Preconditions", name := "checkIndex", desc := "(IILjava/util/function/BiFunction;)I" } : Jvm.MethodName)) ∈ lw_tbl := lw_m1 (List.mem_of_getElem? (i := 144) rfl)
theorem k_145 : (Jvm.Cond.static ({ cls := "jdk/internal/util/Preconditions", name := "checkIndex", desc := "(IILjava/util/function/BiFunction;)I" } : Jvm.MethodName)) ∈ lw_tbl := lw_m1 (List.mem_of_getElem? (i := 145) rfl)
theorem k_146 : (Jvm.Cond.code ({ cls := "jdk/internal/util/Preconditions", name := "checkIndex", desc := "(IILjava/util/function/BiFunction;)I" } : Jvm.MethodName) prog_39_method_11_code (3 : Nat) (Option.some Jvm.ClassFile.FieldType.int)) ∈ lw_tbl := lw_m1 (List.mem_of_getElem? (i := 146) rfl)
theorem k_147 : (Jvm.Cond.methodLink "java/util/ArrayList" (123 : Nat) ({ cls := "java/util/ArrayList", name := "elementData", desc := "(I)Ljava/lang/Object;" } : Jvm.MethodName)) ∈ lw_tbl := lw_m1 (List.mem_of_getElem? (i := 147) rfl)
theorem k_148 : (Jvm.Cond.instanceMethod ({ cls := "java/util/ArrayList", name := "elementData", desc := "(I)Ljava/lang/Object;" } : Jvm.MethodName)) ∈ lw_tbl := lw_m1 (List.mem_of_getElem? (i := 148) rfl)
theorem k_149 : (Jvm.Cond.selects "java/util/ArrayList" ({ cls := "java/util/ArrayList", name := "elementData", desc := "(I)Ljava/lang/Object;" } : Jvm.MethodName) ({ cls := "java/util/ArrayList", name := "elementData", desc := "(I)Ljava/lang/Object;" } : Jvm.MethodName)) ∈ lw_tbl := lw_m1 (List.mem_of_getElem? (i := 149) rfl)
theorem k_150 : (Jvm.Cond.code ({ cls := "java/util/ArrayList", name := "elementData", desc := "(I)Ljava/lang/Object;" } : Jvm.MethodName) prog_30_method_18_code (2 : Nat) (Option.some (Jvm.ClassFile.FieldType.object "java/lang/Object"))) ∈ lw_tbl := lw_m1 (List.mem_of_getElem? (i := 150) rfl)
theorem k_151 : (Jvm.Cond.classLink "Signatory" (192 : Nat) "Signatory$Deed") ∈ lw_tbl := lw_m1 (List.mem_of_getElem? (i := 151) rfl)
theorem k_152 : (Jvm.Cond.methodLink "Signatory" (247 : Nat) ({ cls := "Signatory$Deed", name := "isStanding", desc := "()Z" } : Jvm.MethodName)) ∈ lw_tbl := lw_m1 (List.mem_of_getElem? (i := 152) rfl)
theorem k_153 : (Jvm.Cond.instanceMethod ({ cls := "Signatory$Deed", name := "isStanding", desc := "()Z" } : Jvm.MethodName)) ∈ lw_tbl := lw_m1 (List.mem_of_getElem? (i := 153) rfl)
theorem k_154 : (Jvm.Cond.selects "Signatory$Deed" ({ cls := "Signatory$Deed", name := "isStanding", desc := "()Z" } : Jvm.MethodName) ({ cls := "Signatory$Deed", name := "isStanding", desc := "()Z" } : Jvm.MethodName)) ∈ lw_tbl := lw_m1 (List.mem_of_getElem? (i := 154) rfl)
theorem k_155 : (Jvm.Cond.code ({ cls := "Signatory$Deed", name := "isStanding", desc := "()Z" } : Jvm.MethodName) prog_2_method_2_code (1 : Nat) (Option.some Jvm.ClassFile.FieldType.boolean)) ∈ lw_tbl := lw_m1 (List.mem_of_getElem? (i := 155) rfl)
theorem k_156 : (Jvm.Cond.methodLink "SignatoryLaw" (135 : Nat) ({ cls := "SignatoryLaw", name := "addPerson", desc := "(LSignatory;[J)I" } : Jvm.MethodName)) ∈ lw_tbl := lw_m1 (List.mem_of_getElem? (i := 156) rfl)
theorem k_157 : (Jvm.Cond.static ({ cls := "SignatoryLaw", name := "addPerson", desc := "(LSignatory;[J)I" } : Jvm.MethodName)) ∈ lw_tbl := lw_m1 (List.mem_of_getElem? (i := 157) rfl)
theorem k_158 : (Jvm.Cond.codeWith ({ cls := "SignatoryLaw", name := "addPerson", desc := "(LSignatory;[J)I" } : Jvm.MethodName) method_3_code (3 : Nat) (Option.some Jvm.ClassFile.FieldType.int) [((0 : Nat), (8 : Nat), (11 : Nat), (13 : Nat))]) ∈ lw_tbl := lw_m1 (List.mem_of_getElem? (i := 158) rfl)
theorem k_159 : (Jvm.Cond.classLink "SignatoryLaw" (13 : Nat) "java/lang/IllegalStateException") ∈ lw_tbl := lw_m1 (List.mem_of_getElem? (i := 159) rfl)
theorem k_160 : (Jvm.Cond.methodLink "SignatoryLaw" (7 : Nat) ({ cls := "Signatory", name := "addPerson", desc := "()I" } : Jvm.MethodName)) ∈ lw_tbl := lw_m1 (List.mem_of_getElem? (i := 160) rfl)
theorem k_161 : (Jvm.Cond.instanceMethod ({ cls := "Signatory", name := "addPerson", desc := "()I" } : Jvm.MethodName)) ∈ lw_tbl := lw_m1 (List.mem_of_getElem? (i := 161) rfl)
theorem k_162 : (Jvm.Cond.selects "Signatory" ({ cls := "Signatory", name := "addPerson", desc := "()I" } : Jvm.MethodName) ({ cls := "Signatory", name := "addPerson", desc := "()I" } : Jvm.MethodName)) ∈ lw_tbl := lw_m1 (List.mem_of_getElem? (i := 162) rfl)
theorem k_163 : (Jvm.Cond.code ({ cls := "Signatory", name := "addPerson", desc := "()I" } : Jvm.MethodName) prog_1_method_2_code (1 : Nat) (Option.some Jvm.ClassFile.FieldType.int)) ∈ lw_tbl := lw_m1 (List.mem_of_getElem? (i := 163) rfl)
theorem k_164 : (Jvm.Cond.classLink "Signatory" (36 : Nat) "java/lang/IllegalStateException") ∈ lw_tbl := lw_m1 (List.mem_of_getElem? (i := 164) rfl)
theorem k_165 : (Jvm.Cond.instantiable "java/lang/IllegalStateException" (6 : Nat)) ∈ lw_tbl := lw_m1 (List.mem_of_getElem? (i := 165) rfl)
theorem k_166 : (Jvm.Cond.castable "java/lang/IllegalStateException" "java/lang/IllegalStateException") ∈ lw_tbl := lw_m1 (List.mem_of_getElem? (i := 166) rfl)
theorem k_167 : (Jvm.Cond.declares ({ cls := "java/lang/RuntimeException", name := "<init>", desc := "()V" } : Jvm.MethodName)) ∈ lw_tbl := lw_m1 (List.mem_of_getElem? (i := 167) rfl)
theorem k_168 : (Jvm.Cond.declares ({ cls := "java/lang/RuntimeException", name := "<init>", desc := "(Ljava/lang/String;)V" } : Jvm.MethodName)) ∈ lw_tbl := lw_m1 (List.mem_of_getElem? (i := 168) rfl)
theorem k_169 : (Jvm.Cond.declares ({ cls := "java/lang/Exception", name := "<init>", desc := "()V" } : Jvm.MethodName)) ∈ lw_tbl := lw_m1 (List.mem_of_getElem? (i := 169) rfl)
theorem k_170 : (Jvm.Cond.declares ({ cls := "java/lang/Exception", name := "<init>", desc := "(Ljava/lang/String;)V" } : Jvm.MethodName)) ∈ lw_tbl := lw_m1 (List.mem_of_getElem? (i := 170) rfl)
theorem k_171 : (Jvm.Cond.declares ({ cls := "java/lang/Throwable", name := "<init>", desc := "()V" } : Jvm.MethodName)) ∈ lw_tbl := lw_m1 (List.mem_of_getElem? (i := 171) rfl)
theorem k_172 : (Jvm.Cond.declares ({ cls := "java/lang/Throwable", name := "<init>", desc := "(Ljava/lang/String;)V" } : Jvm.MethodName)) ∈ lw_tbl := lw_m1 (List.mem_of_getElem? (i := 172) rfl)
theorem k_173 : (Jvm.Cond.selects "java/lang/IllegalStateException" ({ cls := "java/lang/Throwable", name := "fillInStackTrace", desc := "(I)Ljava/lang/Throwable;" } : Jvm.MethodName) ({ cls := "java/lang/Throwable", name := "fillInStackTrace", desc := "(I)Ljava/lang/Throwable;" } : Jvm.MethodName)) ∈ lw_tbl := lw_m1 (List.mem_of_getElem? (i := 173) rfl)
theorem k_174 : (Jvm.Cond.selects "java/lang/IllegalStateException" ({ cls := "java/lang/Throwable", name := "fillInStackTrace", desc := "()Ljava/lang/Throwable;" } : Jvm.MethodName) ({ cls := "java/lang/Throwable", name := "fillInStackTrace", desc := "()Ljava/lang/Throwable;" } : Jvm.MethodName)) ∈ lw_tbl := lw_m1 (List.mem_of_getElem? (i := 174) rfl)
theorem k_175 : (Jvm.Cond.lays "java/lang/IllegalStateException" "java/lang/Throwable" "cause" "Ljava/lang/Throwable;") ∈ lw_tbl := lw_m1 (List.mem_of_getElem? (i := 175) rfl)
theorem k_176 : (Jvm.Cond.lays "java/lang/Throwable" "java/lang/Throwable" "cause" "Ljava/lang/Throwable;") ∈ lw_tbl := lw_m1 (List.mem_of_getElem? (i := 176) rfl)
theorem k_177 : (Jvm.Cond.lays "java/lang/IllegalStateException" "java/lang/Throwable" "stackTrace" "[Ljava/lang/StackTraceElement;") ∈ lw_tbl := lw_m1 (List.mem_of_getElem? (i := 177) rfl)
theorem k_178 : (Jvm.Cond.lays "java/lang/Throwable" "java/lang/Throwable" "stackTrace" "[Ljava/lang/StackTraceElement;") ∈ lw_tbl := lw_m1 (List.mem_of_getElem? (i := 178) rfl)
theorem k_179 : (Jvm.Cond.lays "java/lang/IllegalStateException" "java/lang/Throwable" "suppressedExceptions" "Ljava/util/List;") ∈ lw_tbl := lw_m1 (List.mem_of_getElem? (i := 179) rfl)
theorem k_180 : (Jvm.Cond.lays "java/lang/Throwable" "java/lang/Throwable" "suppressedExceptions" "Ljava/util/List;") ∈ lw_tbl := lw_m1 (List.mem_of_getElem? (i := 180) rfl)
theorem k_181 : (Jvm.Cond.lays "java/lang/IllegalStateException" "java/lang/Throwable" "detailMessage" "Ljava/lang/String;") ∈ lw_tbl := lw_m1 (List.mem_of_getElem? (i := 181) rfl)
theorem k_182 : (Jvm.Cond.lays "java/lang/Throwable" "java/lang/Throwable" "detailMessage" "Ljava/lang/String;") ∈ lw_tbl := lw_m1 (List.mem_of_getElem? (i := 182) rfl)
theorem k_183 : (Jvm.Cond.lays "java/lang/IllegalStateException" "java/lang/Throwable" "backtrace" "Ljava/lang/Object;") ∈ lw_tbl := lw_m1 (List.mem_of_getElem? (i := 183) rfl)
theorem k_184 : (Jvm.Cond.lays "java/lang/Throwable" "java/lang/Throwable" "backtrace" "Ljava/lang/Object;") ∈ lw_tbl := lw_m1 (List.mem_of_getElem? (i := 184) rfl)
theorem k_185 : (Jvm.Cond.fieldLink "java/lang/Throwable" (198 : Nat) "java/lang/Throwable" "backtrace" "Ljava/lang/Object;") ∈ lw_tbl := lw_m1 (List.mem_of_getElem? (i := 185) rfl)
theorem k_186 : (Jvm.Cond.superclass "java/lang/Throwable" "java/lang/Object") ∈ lw_tbl := lw_m1 (List.mem_of_getElem? (i := 186) rfl)
theorem k_187 : (Jvm.Cond.instanceMethod ({ cls := "java/lang/Throwable", name := "<init>", desc := "()V" } : Jvm.MethodName)) ∈ lw_tbl := lw_m1 (List.mem_of_getElem? (i := 187) rfl)
theorem k_188 : (Jvm.Cond.code ({ cls := "java/lang/Throwable", name := "<init>", desc := "()V" } : Jvm.MethodName) prog_24_method_1_code (1 : Nat) (Option.none : Option Jvm.ClassFile.FieldType)) ∈ lw_tbl := lw_m1 (List.mem_of_getElem? (i := 188) rfl)
theorem k_189 : (Jvm.Cond.methodLink "java/lang/Throwable" (1 : Nat) ({ cls := "java/lang/Object", name := "<init>", desc := "()V" } : Jvm.MethodName)) ∈ lw_tbl := lw_m1 (List.mem_of_getElem? (i := 189) rfl)
theorem k_190 : (Jvm.Cond.fieldLink "java/lang/Throwable" (13 : Nat) "java/lang/Throwable" "UNASSIGNED_STACK" "[Ljava/lang/StackTraceElement;") ∈ lw_tbl := lw_m1 (List.mem_of_getElem? (i := 190) rfl)
theorem k_191 : (Jvm.Cond.laysStatic "java/lang/Throwable" "UNASSIGNED_STACK" "[Ljava/lang/StackTraceElement;") ∈ lw_tbl := lw_m1 (List.mem_of_getElem? (i := 191) rfl)
theorem k_192 : (Jvm.Cond.fieldLink "java/lang/Throwable" (20 : Nat) "java/lang/Throwable" "SUPPRESSED_SENTINEL" "Ljava/util/List;") ∈ lw_tbl := lw_m1 (List.mem_of_getElem? (i := 192) rfl)
theorem k_193 : (Jvm.Cond.laysStatic "java/lang/Throwable" "SUPPRESSED_SENTINEL" "Ljava/util/List;") ∈ lw_tbl := lw_m1 (List.mem_of_getElem? (i := 193) rfl)
theorem k_194 : (Jvm.Cond.methodLink "java/lang/Throwable" (27 : Nat) ({ cls := "java/lang/Throwable", name := "fillInStackTrace", desc := "()Ljava/lang/Throwable;" } : Jvm.MethodName)) ∈ lw_tbl := lw_m1 (List.mem_of_getElem? (i := 194) rfl)
theorem k_195 : (Jvm.Cond.instanceMethod ({ cls := "java/lang/Throwable", name := "fillInStackTrace", desc := "()Ljava/lang/Throwable;" } : Jvm.MethodName)) ∈ lw_tbl := lw_m1 (List.mem_of_getElem? (i := 195) rfl)
theorem k_196 : (Jvm.Cond.sameMethod "java/lang/Throwable" "java/lang/Throwable" "fillInStackTrace" "()Ljava/lang/Throwable;") ∈ lw_tbl := lw_m1 (List.mem_of_getElem? (i := 196) rfl)
theorem k_197 : (Jvm.Cond.selects "java/lang/IllegalArgumentException" ({ cls := "java/lang/Throwable", name := "fillInStackTrace", desc := "()Ljava/lang/Throwable;" } : Jvm.MethodName) ({ cls := "java/lang/Throwable", name := "fillInStackTrace", desc := "()Ljava/lang/Throwable;" } : Jvm.MethodName)) ∈ lw_tbl := lw_m1 (List.mem_of_getElem? (i := 197) rfl)
theorem k_198 : (Jvm.Cond.selects "java/lang/IndexOutOfBoundsException" ({ cls := "java/lang/Throwable", name := "fillInStackTrace", desc := "()Ljava/lang/Throwable;" } : Jvm.MethodName) ({ cls := "java/lang/Throwable", name := "fillInStackTrace", desc := "()Ljava/lang/Throwable;" } : Jvm.MethodName)) ∈ lw_tbl := lw_m1 (List.mem_of_getElem? (i := 198) rfl)
theorem k_199 : (Jvm.Cond.selects "java/lang/UnsupportedOperationException" ({ cls := "java/lang/Throwable", name := "fillInStackTrace", desc := "()Ljava/lang/Throwable;" } : Jvm.MethodName) ({ cls := "java/lang/Throwable", name := "fillInStackTrace", desc := "()Ljava/lang/Throwable;" } : Jvm.MethodName)) ∈ lw_tbl := lw_m1 (List.mem_of_getElem? (i := 199) rfl)
theorem k_200 : (Jvm.Cond.selects "java/util/NoSuchElementException" ({ cls := "java/lang/Throwable", name := "fillInStackTrace", desc := "()Ljava/lang/Throwable;" } : Jvm.MethodName) ({ cls := "java/lang/Throwable", name := "fillInStackTrace", desc := "()Ljava/lang/Throwable;" } : Jvm.MethodName)) ∈ lw_tbl := lw_m1 (List.mem_of_getElem? (i := 200) rfl)
theorem k_201 : (Jvm.Cond.codeSync ({ cls := "java/lang/Throwable", name := "fillInStackTrace", desc := "()Ljava/lang/Throwable;" } : Jvm.MethodName) prog_24_method_18_code (1 : Nat) (Option.some (Jvm.ClassFile.FieldType.object "java/lang/Throwable"))) ∈ lw_tbl := lw_m1 (List.mem_of_getElem? (i := 201) rfl)
theorem k_202 : (Jvm.Cond.methodLink "java/lang/Throwable" (202 : Nat) ({ cls := "java/lang/Throwable", name := "fillInStackTrace", desc := "(I)Ljava/lang/Throwable;" } : Jvm.MethodName)) ∈ lw_tbl := lw_m1 (List.mem_of_getElem? (i := 202) rfl)
theorem k_203 : (Jvm.Cond.privateMethod ({ cls := "java/lang/Throwable", name := "fillInStackTrace", desc := "(I)Ljava/lang/Throwable;" } : Jvm.MethodName)) ∈ lw_tbl := lw_m1 (List.mem_of_getElem? (i := 203) rfl)
theorem k_204 : (Jvm.Cond.instanceMethod ({ cls := "java/lang/Throwable", name := "fillInStackTrace", desc := "(I)Ljava/lang/Throwable;" } : Jvm.MethodName)) ∈ lw_tbl := lw_m1 (List.mem_of_getElem? (i := 204) rfl)
theorem k_205 : (Jvm.Cond.instantiable "java/lang/Throwable" (6 : Nat)) ∈ lw_tbl := lw_m1 (List.mem_of_getElem? (i := 205) rfl)
theorem k_206 : (Jvm.Cond.native ({ cls := "java/lang/Throwable", name := "fillInStackTrace", desc := "(I)Ljava/lang/Throwable;" } : Jvm.MethodName)) ∈ lw_tbl := lw_m1 (List.mem_of_getElem? (i := 206) rfl)
theorem k_207 : (Jvm.Cond.stringRef "Signatory" (38 : Nat) "there are 8 persons") ∈ lw_tbl := lw_m1 (List.mem_of_getElem? (i := 207) rfl)
theorem k_208 : (Jvm.Cond.methodLink "Signatory" (40 : Nat) ({ cls := "java/lang/IllegalStateException", name := "<init>", desc := "(Ljava/lang/String;)V" } : Jvm.MethodName)) ∈ lw_tbl := lw_m1 (List.mem_of_getElem? (i := 208) rfl)
theorem k_209 : (Jvm.Cond.instanceMethod ({ cls := "java/lang/IllegalStateException", name := "<init>", desc := "(Ljava/lang/String;)V" } : Jvm.MethodName)) ∈ lw_tbl := lw_m1 (List.mem_of_getElem? (i := 209) rfl)
theorem k_210 : (Jvm.Cond.code ({ cls := "java/lang/IllegalStateException", name := "<init>", desc := "(Ljava/lang/String;)V" } : Jvm.MethodName) prog_15_method_2_code (2 : Nat) (Option.none : Option Jvm.ClassFile.FieldType)) ∈ lw_tbl := lw_m1 (List.mem_of_getElem? (i := 210) rfl)
theorem k_211 : (Jvm.Cond.methodLink "java/lang/IllegalStateException" (7 : Nat) ({ cls := "java/lang/RuntimeException", name := "<init>", desc := "(Ljava/lang/String;)V" } : Jvm.MethodName)) ∈ lw_tbl := lw_m1 (List.mem_of_getElem? (i := 211) rfl)
theorem k_212 : (Jvm.Cond.instanceMethod ({ cls := "java/lang/RuntimeException", name := "<init>", desc := "(Ljava/lang/String;)V" } : Jvm.MethodName)) ∈ lw_tbl := lw_m1 (List.mem_of_getElem? (i := 212) rfl)
theorem k_213 : (Jvm.Cond.code ({ cls := "java/lang/RuntimeException", name := "<init>", desc := "(Ljava/lang/String;)V" } : Jvm.MethodName) prog_19_method_2_code (2 : Nat) (Option.none : Option Jvm.ClassFile.FieldType)) ∈ lw_tbl := lw_m1 (List.mem_of_getElem? (i := 213) rfl)
theorem k_214 : (Jvm.Cond.methodLink "java/lang/RuntimeException" (7 : Nat) ({ cls := "java/lang/Exception", name := "<init>", desc := "(Ljava/lang/String;)V" } : Jvm.MethodName)) ∈ lw_tbl := lw_m1 (List.mem_of_getElem? (i := 214) rfl)
theorem k_215 : (Jvm.Cond.instanceMethod ({ cls := "java/lang/Exception", name := "<init>", desc := "(Ljava/lang/String;)V" } : Jvm.MethodName)) ∈ lw_tbl := lw_m1 (List.mem_of_getElem? (i := 215) rfl)
theorem k_216 : (Jvm.Cond.code ({ cls := "java/lang/Exception", name := "<init>", desc := "(Ljava/lang/String;)V" } : Jvm.MethodName) prog_13_method_2_code (2 : Nat) (Option.none : Option Jvm.ClassFile.FieldType)) ∈ lw_tbl := lw_m1 (List.mem_of_getElem? (i := 216) rfl)
theorem k_217 : (Jvm.Cond.methodLink "java/lang/Exception" (7 : Nat) ({ cls := "java/lang/Throwable", name := "<init>", desc := "(Ljava/lang/String;)V" } : Jvm.MethodName)) ∈ lw_tbl := lw_m1 (List.mem_of_getElem? (i := 217) rfl)
theorem k_218 : (Jvm.Cond.instanceMethod ({ cls := "java/lang/Throwable", name := "<init>", desc := "(Ljava/lang/String;)V" } : Jvm.MethodName)) ∈ lw_tbl := lw_m1 (List.mem_of_getElem? (i := 218) rfl)
theorem k_219 : (Jvm.Cond.code ({ cls := "java/lang/Throwable", name := "<init>", desc := "(Ljava/lang/String;)V" } : Jvm.MethodName) prog_24_method_2_code (2 : Nat) (Option.none : Option Jvm.ClassFile.FieldType)) ∈ lw_tbl := lw_m1 (List.mem_of_getElem? (i := 219) rfl)
theorem k_220 : (Jvm.Cond.fieldLink "java/lang/Throwable" (198 : Nat) "java/lang/Throwable" "backtrace" "Ljava/lang/Object;") ∈ lw_tbl := lw_m1 (List.mem_of_getElem? (i := 220) rfl)
theorem k_221 : (Jvm.Cond.fieldLink "java/lang/Throwable" (31 : Nat) "java/lang/Throwable" "detailMessage" "Ljava/lang/String;") ∈ lw_tbl := lw_m1 (List.mem_of_getElem? (i := 221) rfl)
theorem k_222 : (Jvm.Cond.fieldLink "java/lang/Throwable" (7 : Nat) "java/lang/Throwable" "cause" "Ljava/lang/Throwable;") ∈ lw_tbl := lw_m1 (List.mem_of_getElem? (i := 222) rfl)
theorem k_223 : (Jvm.Cond.fieldLink "java/lang/Throwable" (17 : Nat) "java/lang/Throwable" "stackTrace" "[Ljava/lang/StackTraceElement;") ∈ lw_tbl := lw_m1 (List.mem_of_getElem? (i := 223) rfl)
theorem k_224 : (Jvm.Cond.fieldLink "java/lang/Throwable" (24 : Nat) "java/lang/Throwable" "suppressedExceptions" "Ljava/util/List;") ∈ lw_tbl := lw_m1 (List.mem_of_getElem? (i := 224) rfl)
theorem k_225 : (Jvm.Cond.soleField "java/lang/Throwable" "backtrace") ∈ lw_tbl := lw_m1 (List.mem_of_getElem? (i := 225) rfl)
theorem k_226 : (Jvm.Cond.soleField "java/lang/Throwable" "detailMessage") ∈ lw_tbl := lw_m1 (List.mem_of_getElem? (i := 226) rfl)
theorem k_227 : (Jvm.Cond.soleField "java/lang/Throwable" "cause") ∈ lw_tbl := lw_m1 (List.mem_of_getElem? (i := 227) rfl)
theorem k_228 : (Jvm.Cond.soleField "java/lang/Throwable" "stackTrace") ∈ lw_tbl := lw_m1 (List.mem_of_getElem? (i := 228) rfl)
theorem k_229 : (Jvm.Cond.lays "java/lang/IllegalStateException" "java/lang/Throwable" "depth" "I") ∈ lw_tbl := lw_m1 (List.mem_of_getElem? (i := 229) rfl)
theorem k_230 : (Jvm.Cond.soleField "java/lang/Throwable" "depth") ∈ lw_tbl := lw_m1 (List.mem_of_getElem? (i := 230) rfl)
theorem k_231 : (Jvm.Cond.soleField "java/lang/Throwable" "suppressedExceptions") ∈ lw_tbl := lw_m1 (List.mem_of_getElem? (i := 231) rfl)
theorem k_232 : (Jvm.Cond.superclass "java/lang/IllegalStateException" "java/lang/RuntimeException") ∈ lw_tbl := lw_m1 (List.mem_of_getElem? (i := 232) rfl)
theorem k_233 : (Jvm.Cond.arrayClass Jvm.ClassFile.FieldType.byte) ∈ lw_tbl := lw_m1 (List.mem_of_getElem? (i := 233) rfl)
theorem k_234 : (Jvm.Cond.methodLink "SignatoryLaw" (144 : Nat) ({ cls := "SignatoryLaw", name := "leave", desc := "(LSignatory;II[J)I" } : Jvm.MethodName)) ∈ lw_tbl := lw_m1 (List.mem_of_getElem? (i := 234) rfl)
theorem k_235 : (Jvm.Cond.static ({ cls := "SignatoryLaw", name := "leave", desc := "(LSignatory;II[J)I" } : Jvm.MethodName)) ∈ lw_tbl := lw_m1 (List.mem_of_getElem? (i := 235) rfl)
theorem k_236 : (Jvm.Cond.codeWith ({ cls := "SignatoryLaw", name := "leave", desc := "(LSignatory;II[J)I" } : Jvm.MethodName) method_4_code (5 : Nat) (Option.some Jvm.ClassFile.FieldType.int) [((0 : Nat), (10 : Nat), (13 : Nat), (19 : Nat)), ((0 : Nat), (10 : Nat), (17 : Nat), (21 : Nat))]) ∈ lw_tbl := lw_m1 (List.mem_of_getElem? (i := 236) rfl)
theorem k_237 : (Jvm.Cond.classLink "SignatoryLaw" (19 : Nat) "java/lang/IndexOutOfBoundsException") ∈ lw_tbl := lw_m1 (List.mem_of_getElem? (i := 237) rfl)
theorem k_238 : (Jvm.Cond.classLink "SignatoryLaw" (21 : Nat) "java/lang/IllegalArgumentException") ∈ lw_tbl := lw_m1 (List.mem_of_getElem? (i := 238) rfl)
theorem k_239 : (Jvm.Cond.methodLink "SignatoryLaw" (15 : Nat) ({ cls := "Signatory", name := "leave", desc := "(II)I" } : Jvm.MethodName)) ∈ lw_tbl := lw_m1 (List.mem_of_getElem? (i := 239) rfl)
theorem k_240 : (Jvm.Cond.instanceMethod ({ cls := "Signatory", name := "leave", desc := "(II)I" } : Jvm.MethodName)) ∈ lw_tbl := lw_m2 (List.mem_of_getElem? (i := 0) rfl)
theorem k_241 : (Jvm.Cond.selects "Signatory" ({ cls := "Signatory", name := "leave", desc := "(II)I" } : Jvm.MethodName) ({ cls := "Signatory", name := "leave", desc := "(II)I" } : Jvm.MethodName)) ∈ lw_tbl := lw_m2 (List.mem_of_getElem? (i := 1) rfl)
theorem k_242 : (Jvm.Cond.code ({ cls := "Signatory", name := "leave", desc := "(II)I" } : Jvm.MethodName) prog_1_method_3_code (4 : Nat) (Option.some Jvm.ClassFile.FieldType.int)) ∈ lw_tbl := lw_m2 (List.mem_of_getElem? (i := 2) rfl)
theorem k_243 : (Jvm.Cond.methodLink "Signatory" (43 : Nat) ({ cls := "Signatory", name := "requirePerson", desc := "(I)V" } : Jvm.MethodName)) ∈ lw_tbl := lw_m2 (List.mem_of_getElem? (i := 3) rfl)
theorem k_244 : (Jvm.Cond.privateMethod ({ cls := "Signatory", name := "requirePerson", desc := "(I)V" } : Jvm.MethodName)) ∈ lw_tbl := lw_m2 (List.mem_of_getElem? (i := 4) rfl)
theorem k_245 : (Jvm.Cond.instanceMethod ({ cls := "Signatory", name := "requirePerson", desc := "(I)V" } : Jvm.MethodName)) ∈ lw_tbl := lw_m2 (List.mem_of_getElem? (i := 5) rfl)
theorem k_246 : (Jvm.Cond.code ({ cls := "Signatory", name := "requirePerson", desc := "(I)V" } : Jvm.MethodName) prog_1_method_39_code (2 : Nat) (Option.none : Option Jvm.ClassFile.FieldType)) ∈ lw_tbl := lw_m2 (List.mem_of_getElem? (i := 6) rfl)
theorem k_247 : (Jvm.Cond.methodLink "Signatory" (286 : Nat) ({ cls := "Signatory", name := "isIndex", desc := "(II)Z" } : Jvm.MethodName)) ∈ lw_tbl := lw_m2 (List.mem_of_getElem? (i := 7) rfl)
theorem k_248 : (Jvm.Cond.static ({ cls := "Signatory", name := "isIndex", desc := "(II)Z" } : Jvm.MethodName)) ∈ lw_tbl := lw_m2 (List.mem_of_getElem? (i := 8) rfl)
theorem k_249 : (Jvm.Cond.code ({ cls := "Signatory", name := "isIndex", desc := "(II)Z" } : Jvm.MethodName) prog_1_method_38_code (2 : Nat) (Option.some Jvm.ClassFile.FieldType.boolean)) ∈ lw_tbl := lw_m2 (List.mem_of_getElem? (i := 9) rfl)
theorem k_250 : (Jvm.Cond.classLink "Signatory" (289 : Nat) "java/lang/IndexOutOfBoundsException") ∈ lw_tbl := lw_m2 (List.mem_of_getElem? (i := 10) rfl)
theorem k_251 : (Jvm.Cond.instantiable "java/lang/IndexOutOfBoundsException" (6 : Nat)) ∈ lw_tbl := lw_m2 (List.mem_of_getElem? (i := 11) rfl)
theorem k_252 : (Jvm.Cond.castable "java/lang/IndexOutOfBoundsException" "java/lang/IndexOutOfBoundsException") ∈ lw_tbl := lw_m2 (List.mem_of_getElem? (i := 12) rfl)
theorem k_253 : (Jvm.Cond.selects "java/lang/IndexOutOfBoundsException" ({ cls := "java/lang/Throwable", name := "fillInStackTrace", desc := "(I)Ljava/lang/Throwable;" } : Jvm.MethodName) ({ cls := "java/lang/Throwable", name := "fillInStackTrace", desc := "(I)Ljava/lang/Throwable;" } : Jvm.MethodName)) ∈ lw_tbl := lw_m2 (List.mem_of_getElem? (i := 13) rfl)
theorem k_254 : (Jvm.Cond.lays "java/lang/IndexOutOfBoundsException" "java/lang/Throwable" "cause" "Ljava/lang/Throwable;") ∈ lw_tbl := lw_m2 (List.mem_of_getElem? (i := 14) rfl)
theorem k_255 : (Jvm.Cond.lays "java/lang/IndexOutOfBoundsException" "java/lang/Throwable" "stackTrace" "[Ljava/lang/StackTraceElement;") ∈ lw_tbl := lw_m2 (List.mem_of_getElem? (i := 15) rfl)
theorem k_256 : (Jvm.Cond.lays "java/lang/IndexOutOfBoundsException" "java/lang/Throwable" "suppressedExceptions" "Ljava/util/List;") ∈ lw_tbl := lw_m2 (List.mem_of_getElem? (i := 16) rfl)
theorem k_257 : (Jvm.Cond.lays "java/lang/IndexOutOfBoundsException" "java/lang/Throwable" "detailMessage" "Ljava/lang/String;") ∈ lw_tbl := lw_m2 (List.mem_of_getElem? (i := 17) rfl)
theorem k_258 : (Jvm.Cond.lays "java/lang/IndexOutOfBoundsException" "java/lang/Throwable" "backtrace" "Ljava/lang/Object;") ∈ lw_tbl := lw_m2 (List.mem_of_getElem? (i := 18) rfl)
theorem k_259 : (Jvm.Cond.stringRef "Signatory" (291 : Nat) "no such person") ∈ lw_tbl := lw_m2 (List.mem_of_getElem? (i := 19) rfl)
theorem k_260 : (Jvm.Cond.methodLink "Signatory" (293 : Nat) ({ cls := "java/lang/IndexOutOfBoundsException", name := "<init>", desc := "(Ljava/lang/String;)V" } : Jvm.MethodName)) ∈ lw_tbl := lw_m2 (List.mem_of_getElem? (i := 20) rfl)
theorem k_261 : (Jvm.Cond.instanceMethod ({ cls := "java/lang/IndexOutOfBoundsException", name := "<init>", desc := "(Ljava/lang/String;)V" } : Jvm.MethodName)) ∈ lw_tbl := lw_m2 (List.mem_of_getElem? (i := 21) rfl)
theorem k_262 : (Jvm.Cond.code ({ cls := "java/lang/IndexOutOfBoundsException", name := "<init>", desc := "(Ljava/lang/String;)V" } : Jvm.MethodName) prog_16_method_2_code (2 : Nat) (Option.none : Option Jvm.ClassFile.FieldType)) ∈ lw_tbl := lw_m2 (List.mem_of_getElem? (i := 22) rfl)
theorem k_263 : (Jvm.Cond.methodLink "java/lang/IndexOutOfBoundsException" (7 : Nat) ({ cls := "java/lang/RuntimeException", name := "<init>", desc := "(Ljava/lang/String;)V" } : Jvm.MethodName)) ∈ lw_tbl := lw_m2 (List.mem_of_getElem? (i := 23) rfl)
theorem k_264 : (Jvm.Cond.lays "java/lang/IndexOutOfBoundsException" "java/lang/Throwable" "depth" "I") ∈ lw_tbl := lw_m2 (List.mem_of_getElem? (i := 24) rfl)
theorem k_265 : (Jvm.Cond.superclass "java/lang/IndexOutOfBoundsException" "java/lang/RuntimeException") ∈ lw_tbl := lw_m2 (List.mem_of_getElem? (i := 25) rfl)
theorem k_266 : (Jvm.Cond.classLink "Signatory" (47 : Nat) "java/lang/IllegalArgumentException") ∈ lw_tbl := lw_m2 (List.mem_of_getElem? (i := 26) rfl)
theorem k_267 : (Jvm.Cond.instantiable "java/lang/IllegalArgumentException" (6 : Nat)) ∈ lw_tbl := lw_m2 (List.mem_of_getElem? (i := 27) rfl)
theorem k_268 : (Jvm.Cond.castable "java/lang/IllegalArgumentException" "java/lang/IllegalArgumentException") ∈ lw_tbl := lw_m2 (List.mem_of_getElem? (i := 28) rfl)
theorem k_269 : (Jvm.Cond.selects "java/lang/IllegalArgumentException" ({ cls := "java/lang/Throwable", name := "fillInStackTrace", desc := "(I)Ljava/lang/Throwable;" } : Jvm.MethodName) ({ cls := "java/lang/Throwable", name := "fillInStackTrace", desc := "(I)Ljava/lang/Throwable;" } : Jvm.MethodName)) ∈ lw_tbl := lw_m2 (List.mem_of_getElem? (i := 29) rfl)
theorem k_270 : (Jvm.Cond.lays "java/lang/IllegalArgumentException" "java/lang/Throwable" "cause" "Ljava/lang/Throwable;") ∈ lw_tbl := lw_m2 (List.mem_of_getElem? (i := 30) rfl)
theorem k_271 : (Jvm.Cond.lays "java/lang/IllegalArgumentException" "java/lang/Throwable" "stackTrace" "[Ljava/lang/StackTraceElement;") ∈ lw_tbl := lw_m2 (List.mem_of_getElem? (i := 31) rfl)
theorem k_272 : (Jvm.Cond.lays "java/lang/IllegalArgumentException" "java/lang/Throwable" "suppressedExceptions" "Ljava/util/List;") ∈ lw_tbl := lw_m2 (List.mem_of_getElem? (i := 32) rfl)
theorem k_273 : (Jvm.Cond.lays "java/lang/IllegalArgumentException" "java/lang/Throwable" "detailMessage" "Ljava/lang/String;") ∈ lw_tbl := lw_m2 (List.mem_of_getElem? (i := 33) rfl)
theorem k_274 : (Jvm.Cond.lays "java/lang/IllegalArgumentException" "java/lang/Throwable" "backtrace" "Ljava/lang/Object;") ∈ lw_tbl := lw_m2 (List.mem_of_getElem? (i := 34) rfl)
theorem k_275 : (Jvm.Cond.stringRef "Signatory" (49 : Nat) "nobody is one's own substitute") ∈ lw_tbl := lw_m2 (List.mem_of_getElem? (i := 35) rfl)
theorem k_276 : (Jvm.Cond.methodLink "Signatory" (51 : Nat) ({ cls := "java/lang/IllegalArgumentException", name := "<init>", desc := "(Ljava/lang/String;)V" } : Jvm.MethodName)) ∈ lw_tbl := lw_m2 (List.mem_of_getElem? (i := 36) rfl)
theorem k_277 : (Jvm.Cond.instanceMethod ({ cls := "java/lang/IllegalArgumentException", name := "<init>", desc := "(Ljava/lang/String;)V" } : Jvm.MethodName)) ∈ lw_tbl := lw_m2 (List.mem_of_getElem? (i := 37) rfl)
theorem k_278 : (Jvm.Cond.code ({ cls := "java/lang/IllegalArgumentException", name := "<init>", desc := "(Ljava/lang/String;)V" } : Jvm.MethodName) prog_14_method_2_code (2 : Nat) (Option.none : Option Jvm.ClassFile.FieldType)) ∈ lw_tbl := lw_m2 (List.mem_of_getElem? (i := 38) rfl)
theorem k_279 : (Jvm.Cond.methodLink "java/lang/IllegalArgumentException" (7 : Nat) ({ cls := "java/lang/RuntimeException", name := "<init>", desc := "(Ljava/lang/String;)V" } : Jvm.MethodName)) ∈ lw_tbl := lw_m2 (List.mem_of_getElem? (i := 39) rfl)
theorem k_280 : (Jvm.Cond.lays "java/lang/IllegalArgumentException" "java/lang/Throwable" "depth" "I") ∈ lw_tbl := lw_m2 (List.mem_of_getElem? (i := 40) rfl)
theorem k_281 : (Jvm.Cond.superclass "java/lang/IllegalArgumentException" "java/lang/RuntimeException") ∈ lw_tbl := lw_m2 (List.mem_of_getElem? (i := 41) rfl)
theorem k_282 : (Jvm.Cond.methodLink "Signatory" (52 : Nat) ({ cls := "Signatory", name := "substituteOrNone", desc := "(I)I" } : Jvm.MethodName)) ∈ lw_tbl := lw_m2 (List.mem_of_getElem? (i := 42) rfl)
theorem k_283 : (Jvm.Cond.privateMethod ({ cls := "Signatory", name := "substituteOrNone", desc := "(I)I" } : Jvm.MethodName)) ∈ lw_tbl := lw_m2 (List.mem_of_getElem? (i := 43) rfl)
theorem k_284 : (Jvm.Cond.instanceMethod ({ cls := "Signatory", name := "substituteOrNone", desc := "(I)I" } : Jvm.MethodName)) ∈ lw_tbl := lw_m2 (List.mem_of_getElem? (i := 44) rfl)
theorem k_285 : (Jvm.Cond.code ({ cls := "Signatory", name := "substituteOrNone", desc := "(I)I" } : Jvm.MethodName) prog_1_method_57_code (3 : Nat) (Option.some Jvm.ClassFile.FieldType.int)) ∈ lw_tbl := lw_m2 (List.mem_of_getElem? (i := 45) rfl)
theorem k_286 : (Jvm.Cond.methodLink "Signatory" (60 : Nat) ({ cls := "Signatory$Moment", name := "substituteFor", desc := "(I)I" } : Jvm.MethodName)) ∈ lw_tbl := lw_m2 (List.mem_of_getElem? (i := 46) rfl)
theorem k_287 : (Jvm.Cond.instanceMethod ({ cls := "Signatory$Moment", name := "substituteFor", desc := "(I)I" } : Jvm.MethodName)) ∈ lw_tbl := lw_m2 (List.mem_of_getElem? (i := 47) rfl)
theorem k_288 : (Jvm.Cond.selects "Signatory$Moment" ({ cls := "Signatory$Moment", name := "substituteFor", desc := "(I)I" } : Jvm.MethodName) ({ cls := "Signatory$Moment", name := "substituteFor", desc := "(I)I" } : Jvm.MethodName)) ∈ lw_tbl := lw_m2 (List.mem_of_getElem? (i := 48) rfl)
theorem k_289 : (Jvm.Cond.code ({ cls := "Signatory$Moment", name := "substituteFor", desc := "(I)I" } : Jvm.MethodName) prog_3_method_7_code (2 : Nat) (Option.some Jvm.ClassFile.FieldType.int)) ∈ lw_tbl := lw_m2 (List.mem_of_getElem? (i := 49) rfl)
theorem k_290 : (Jvm.Cond.methodLinkNest "Signatory$Moment" (43 : Nat) ({ cls := "Signatory", name := "isIndex", desc := "(II)Z" } : Jvm.MethodName) "Signatory") ∈ lw_tbl := lw_m2 (List.mem_of_getElem? (i := 50) rfl)
theorem k_291 : (Jvm.Cond.methodLink "Signatory" (56 : Nat) ({ cls := "Signatory", name := "tell", desc := "(III)V" } : Jvm.MethodName)) ∈ lw_tbl := lw_m2 (List.mem_of_getElem? (i := 51) rfl)
theorem k_292 : (Jvm.Cond.privateMethod ({ cls := "Signatory", name := "tell", desc := "(III)V" } : Jvm.MethodName)) ∈ lw_tbl := lw_m2 (List.mem_of_getElem? (i := 52) rfl)
theorem k_293 : (Jvm.Cond.instanceMethod ({ cls := "Signatory", name := "tell", desc := "(III)V" } : Jvm.MethodName)) ∈ lw_tbl := lw_m2 (List.mem_of_getElem? (i := 53) rfl)
theorem k_294 : (Jvm.Cond.code ({ cls := "Signatory", name := "tell", desc := "(III)V" } : Jvm.MethodName) prog_1_method_52_code (5 : Nat) (Option.none : Option Jvm.ClassFile.FieldType)) ∈ lw_tbl := lw_m2 (List.mem_of_getElem? (i := 54) rfl)
theorem k_295 : (Jvm.Cond.classLink "Signatory" (323 : Nat) "Signatory$Paper") ∈ lw_tbl := lw_m2 (List.mem_of_getElem? (i := 55) rfl)
theorem k_296 : (Jvm.Cond.instantiable "Signatory$Paper" (3 : Nat)) ∈ lw_tbl := lw_m2 (List.mem_of_getElem? (i := 56) rfl)
theorem k_297 : (Jvm.Cond.methodLink "Signatory" (325 : Nat) ({ cls := "Signatory$Paper", name := "<init>", desc := "(III)V" } : Jvm.MethodName)) ∈ lw_tbl := lw_m2 (List.mem_of_getElem? (i := 57) rfl)
theorem k_298 : (Jvm.Cond.instanceMethod ({ cls := "Signatory$Paper", name := "<init>", desc := "(III)V" } : Jvm.MethodName)) ∈ lw_tbl := lw_m2 (List.mem_of_getElem? (i := 58) rfl)
theorem k_299 : (Jvm.Cond.code ({ cls := "Signatory$Paper", name := "<init>", desc := "(III)V" } : Jvm.MethodName) prog_4_method_1_code (4 : Nat) (Option.none : Option Jvm.ClassFile.FieldType)) ∈ lw_tbl := lw_m2 (List.mem_of_getElem? (i := 59) rfl)
theorem k_300 : (Jvm.Cond.methodLink "Signatory$Paper" (1 : Nat) ({ cls := "java/lang/Object", name := "<init>", desc := "()V" } : Jvm.MethodName)) ∈ lw_tbl := lw_m2 (List.mem_of_getElem? (i := 60) rfl)
theorem k_301 : (Jvm.Cond.fieldLink "Signatory$Paper" (7 : Nat) "Signatory$Paper" "matter" "I") ∈ lw_tbl := lw_m2 (List.mem_of_getElem? (i := 61) rfl)
theorem k_302 : (Jvm.Cond.fieldLink "Signatory$Moment" (40 : Nat) "Signatory$Paper" "matter" "I") ∈ lw_tbl := lw_m2 (List.mem_of_getElem? (i := 62) rfl)
theorem k_303 : (Jvm.Cond.fieldLink "Signatory$Paper" (13 : Nat) "Signatory$Paper" "subject" "I") ∈ lw_tbl := lw_m2 (List.mem_of_getElem? (i := 63) rfl)
theorem k_304 : (Jvm.Cond.fieldLink "Signatory$Moment" (35 : Nat) "Signatory$Paper" "subject" "I") ∈ lw_tbl := lw_m2 (List.mem_of_getElem? (i := 64) rfl)
theorem k_305 : (Jvm.Cond.fieldLink "Signatory$Paper" (16 : Nat) "Signatory$Paper" "value" "I") ∈ lw_tbl := lw_m2 (List.mem_of_getElem? (i := 65) rfl)
theorem k_306 : (Jvm.Cond.fieldLink "Signatory$Moment" (47 : Nat) "Signatory$Paper" "value" "I") ∈ lw_tbl := lw_m2 (List.mem_of_getElem? (i := 66) rfl)
theorem k_307 : (Jvm.Cond.laysFinal "Signatory$Paper" "Signatory$Paper" "matter" "I") ∈ lw_tbl := lw_m2 (List.mem_of_getElem? (i := 67) rfl)
theorem k_308 : (Jvm.Cond.soleField "Signatory$Paper" "matter") ∈ lw_tbl := lw_m2 (List.mem_of_getElem? (i := 68) rfl)
theorem k_309 : (Jvm.Cond.laysFinal "Signatory$Paper" "Signatory$Paper" "subject" "I") ∈ lw_tbl := lw_m2 (List.mem_of_getElem? (i := 69) rfl)
theorem k_310 : (Jvm.Cond.soleField "Signatory$Paper" "subject") ∈ lw_tbl := lw_m2 (List.mem_of_getElem? (i := 70) rfl)
theorem k_311 : (Jvm.Cond.laysFinal "Signatory$Paper" "Signatory$Paper" "value" "I") ∈ lw_tbl := lw_m2 (List.mem_of_getElem? (i := 71) rfl)
theorem k_312 : (Jvm.Cond.soleField "Signatory$Paper" "value") ∈ lw_tbl := lw_m2 (List.mem_of_getElem? (i := 72) rfl)
theorem k_313 : (Jvm.Cond.superclass "Signatory$Paper" "java/lang/Object") ∈ lw_tbl := lw_m2 (List.mem_of_getElem? (i := 73) rfl)
theorem k_314 : (Jvm.Cond.interfaceEntry "Signatory" (327 : Nat)) ∈ lw_tbl := lw_m2 (List.mem_of_getElem? (i := 74) rfl)
theorem k_315 : (Jvm.Cond.methodLink "Signatory" (327 : Nat) ({ cls := "java/util/List", name := "add", desc := "(Ljava/lang/Object;)Z" } : Jvm.MethodName)) ∈ lw_tbl := lw_m2 (List.mem_of_getElem? (i := 75) rfl)
theorem k_316 : (Jvm.Cond.interfaceMethod "java/util/List" "java/util/List" "add" "(Ljava/lang/Object;)Z") ∈ lw_tbl := lw_m2 (List.mem_of_getElem? (i := 76) rfl)
theorem k_317 : (Jvm.Cond.declares ({ cls := "java/util/List", name := "add", desc := "(Ljava/lang/Object;)Z" } : Jvm.MethodName)) ∈ lw_tbl := lw_m2 (List.mem_of_getElem? (i := 77) rfl)
theorem k_318 : (Jvm.Cond.selects "java/util/ArrayList" ({ cls := "java/util/List", name := "add", desc := "(Ljava/lang/Object;)Z" } : Jvm.MethodName) ({ cls := "java/util/ArrayList", name := "add", desc := "(Ljava/lang/Object;)Z" } : Jvm.MethodName)) ∈ lw_tbl := lw_m2 (List.mem_of_getElem? (i := 78) rfl)
theorem k_319 : (Jvm.Cond.unhidden "java/util/ArrayList" "add" "(Ljava/lang/Object;)Z") ∈ lw_tbl := lw_m2 (List.mem_of_getElem? (i := 79) rfl)
theorem k_320 : (Jvm.Cond.instanceMethod ({ cls := "java/util/ArrayList", name := "add", desc := "(Ljava/lang/Object;)Z" } : Jvm.MethodName)) ∈ lw_tbl := lw_m2 (List.mem_of_getElem? (i := 80) rfl)
theorem k_321 : (Jvm.Cond.publicMethod ({ cls := "java/util/ArrayList", name := "add", desc := "(Ljava/lang/Object;)Z" } : Jvm.MethodName)) ∈ lw_tbl := lw_m2 (List.mem_of_getElem? (i := 81) rfl)
theorem k_322 : (Jvm.Cond.code ({ cls := "java/util/ArrayList", name := "add", desc := "(Ljava/lang/Object;)Z" } : Jvm.MethodName) prog_30_method_25_code (2 : Nat) (Option.some Jvm.ClassFile.FieldType.boolean)) ∈ lw_tbl := lw_m2 (List.mem_of_getElem? (i := 82) rfl)
theorem k_323 : (Jvm.Cond.methodLink "java/util/ArrayList" (131 : Nat) ({ cls := "java/util/ArrayList", name := "add", desc := "(Ljava/lang/Object;[Ljava/lang/Object;I)V" } : Jvm.MethodName)) ∈ lw_tbl := lw_m2 (List.mem_of_getElem? (i := 83) rfl)
theorem k_324 : (Jvm.Cond.privateMethod ({ cls := "java/util/ArrayList", name := "add", desc := "(Ljava/lang/Object;[Ljava/lang/Object;I)V" } : Jvm.MethodName)) ∈ lw_tbl := lw_m2 (List.mem_of_getElem? (i := 84) rfl)
theorem k_325 : (Jvm.Cond.instanceMethod ({ cls := "java/util/ArrayList", name := "add", desc := "(Ljava/lang/Object;[Ljava/lang/Object;I)V" } : Jvm.MethodName)) ∈ lw_tbl := lw_m2 (List.mem_of_getElem? (i := 85) rfl)
theorem k_326 : (Jvm.Cond.code ({ cls := "java/util/ArrayList", name := "add", desc := "(Ljava/lang/Object;[Ljava/lang/Object;I)V" } : Jvm.MethodName) prog_30_method_24_code (4 : Nat) (Option.none : Option Jvm.ClassFile.FieldType)) ∈ lw_tbl := lw_m2 (List.mem_of_getElem? (i := 86) rfl)
theorem k_327 : (Jvm.Cond.methodLink "java/util/ArrayList" (129 : Nat) ({ cls := "java/util/ArrayList", name := "grow", desc := "()[Ljava/lang/Object;" } : Jvm.MethodName)) ∈ lw_tbl := lw_m2 (List.mem_of_getElem? (i := 87) rfl)
theorem k_328 : (Jvm.Cond.privateMethod ({ cls := "java/util/ArrayList", name := "grow", desc := "()[Ljava/lang/Object;" } : Jvm.MethodName)) ∈ lw_tbl := lw_m2 (List.mem_of_getElem? (i := 88) rfl)
theorem k_329 : (Jvm.Cond.instanceMethod ({ cls := "java/util/ArrayList", name := "grow", desc := "()[Ljava/lang/Object;" } : Jvm.MethodName)) ∈ lw_tbl := lw_m2 (List.mem_of_getElem? (i := 89) rfl)
theorem k_330 : (Jvm.Cond.code ({ cls := "java/util/ArrayList", name := "grow", desc := "()[Ljava/lang/Object;" } : Jvm.MethodName) prog_30_method_7_code (1 : Nat) (Option.some (Jvm.ClassFile.FieldType.array (Jvm.ClassFile.FieldType.object "java/lang/Object")))) ∈ lw_tbl := lw_m2 (List.mem_of_getElem? (i := 90) rfl)
theorem k_331 : (Jvm.Cond.methodLink "java/util/ArrayList" (69 : Nat) ({ cls := "java/util/ArrayList", name := "grow", desc := "(I)[Ljava/lang/Object;" } : Jvm.MethodName)) ∈ lw_tbl := lw_m2 (List.mem_of_getElem? (i := 91) rfl)
theorem k_332 : (Jvm.Cond.privateMethod ({ cls := "java/util/ArrayList", name := "grow", desc := "(I)[Ljava/lang/Object;" } : Jvm.MethodName)) ∈ lw_tbl := lw_m2 (List.mem_of_getElem? (i := 92) rfl)
theorem k_333 : (Jvm.Cond.instanceMethod ({ cls := "java/util/ArrayList", name := "grow", desc := "(I)[Ljava/lang/Object;" } : Jvm.MethodName)) ∈ lw_tbl := lw_m2 (List.mem_of_getElem? (i := 93) rfl)
theorem k_334 : (Jvm.Cond.code ({ cls := "java/util/ArrayList", name := "grow", desc := "(I)[Ljava/lang/Object;" } : Jvm.MethodName) prog_30_method_6_code (4 : Nat) (Option.some (Jvm.ClassFile.FieldType.array (Jvm.ClassFile.FieldType.object "java/lang/Object")))) ∈ lw_tbl := lw_m2 (List.mem_of_getElem? (i := 94) rfl)
theorem k_335 : (Jvm.Cond.methodLink "java/util/ArrayList" (73 : Nat) ({ cls := "jdk/internal/util/ArraysSupport", name := "newLength", desc := "(III)I" } : Jvm.MethodName)) ∈ lw_tbl := lw_m2 (List.mem_of_getElem? (i := 95) rfl)
theorem k_336 : (Jvm.Cond.static ({ cls := "jdk/internal/util/ArraysSupport", name := "newLength", desc := "(III)I" } : Jvm.MethodName)) ∈ lw_tbl := lw_m2 (List.mem_of_getElem? (i := 96) rfl)
theorem k_337 : (Jvm.Cond.code ({ cls := "jdk/internal/util/ArraysSupport", name := "newLength", desc := "(III)I" } : Jvm.MethodName) prog_38_method_27_code (4 : Nat) (Option.some Jvm.ClassFile.FieldType.int)) ∈ lw_tbl := lw_m2 (List.mem_of_getElem? (i := 97) rfl)
theorem k_338 : (Jvm.Cond.methodLink "jdk/internal/util/ArraysSupport" (194 : Nat) ({ cls := "java/lang/Math", name := "max", desc := "(II)I" } : Jvm.MethodName)) ∈ lw_tbl := lw_m2 (List.mem_of_getElem? (i := 98) rfl)
theorem k_339 : (Jvm.Cond.static ({ cls := "java/lang/Math", name := "max", desc := "(II)I" } : Jvm.MethodName)) ∈ lw_tbl := lw_m2 (List.mem_of_getElem? (i := 99) rfl)
theorem k_340 : (Jvm.Cond.code ({ cls := "java/lang/Math", name := "max", desc := "(II)I" } : Jvm.MethodName) prog_18_method_65_code (2 : Nat) (Option.some Jvm.ClassFile.FieldType.int)) ∈ lw_tbl := lw_m2 (List.mem_of_getElem? (i := 100) rfl)
theorem k_341 : (Jvm.Cond.constant "jdk/internal/util/ArraysSupport" (200 : Nat) (2147483639 : Int32)) ∈ lw_tbl := lw_m2 (List.mem_of_getElem? (i := 101) rfl)
theorem k_342 : (Jvm.Cond.methodLink "jdk/internal/util/ArraysSupport" (201 : Nat) ({ cls := "jdk/internal/util/ArraysSupport", name := "hugeLength", desc := "(II)I" } : Jvm.MethodName)) ∈ lw_tbl := lw_m2 (List.mem_of_getElem? (i := 102) rfl)
theorem k_343 : (Jvm.Cond.static ({ cls := "jdk/internal/util/ArraysSupport", name := "hugeLength", desc := "(II)I" } : Jvm.MethodName)) ∈ lw_tbl := lw_m2 (List.mem_of_getElem? (i := 103) rfl)
theorem k_344 : (Jvm.Cond.code ({ cls := "jdk/internal/util/ArraysSupport", name := "hugeLength", desc := "(II)I" } : Jvm.MethodName) prog_38_method_28_code (3 : Nat) (Option.some Jvm.ClassFile.FieldType.int)) ∈ lw_tbl := lw_m2 (List.mem_of_getElem? (i := 104) rfl)
theorem k_345 : (Jvm.Cond.methodLink "java/util/ArrayList" (66 : Nat) ({ cls := "java/util/Arrays", name := "copyOf", desc := "([Ljava/lang/Object;I)[Ljava/lang/Object;" } : Jvm.MethodName)) ∈ lw_tbl := lw_m2 (List.mem_of_getElem? (i := 105) rfl)
theorem k_346 : (Jvm.Cond.static ({ cls := "java/util/Arrays", name := "copyOf", desc := "([Ljava/lang/Object;I)[Ljava/lang/Object;" } : Jvm.MethodName)) ∈ lw_tbl := lw_m2 (List.mem_of_getElem? (i := 106) rfl)
theorem k_347 : (Jvm.Cond.code ({ cls := "java/util/Arrays", name := "copyOf", desc := "([Ljava/lang/Object;I)[Ljava/lang/Object;" } : Jvm.MethodName) prog_31_method_119_code (2 : Nat) (Option.some (Jvm.ClassFile.FieldType.array (Jvm.ClassFile.FieldType.object "java/lang/Object")))) ∈ lw_tbl := lw_m2 (List.mem_of_getElem? (i := 107) rfl)
theorem k_348 : (Jvm.Cond.methodLink "java/util/Arrays" (86 : Nat) ({ cls := "java/lang/Object", name := "getClass", desc := "()Ljava/lang/Class;" } : Jvm.MethodName)) ∈ lw_tbl := lw_m2 (List.mem_of_getElem? (i := 108) rfl)
theorem k_349 : (Jvm.Cond.instanceMethod ({ cls := "java/lang/Object", name := "getClass", desc := "()Ljava/lang/Class;" } : Jvm.MethodName)) ∈ lw_tbl := lw_m2 (List.mem_of_getElem? (i := 109) rfl)
theorem k_350 : (Jvm.Cond.sameMethod "java/lang/Object" "java/lang/Object" "getClass" "()Ljava/lang/Class;") ∈ lw_tbl := lw_m2 (List.mem_of_getElem? (i := 110) rfl)
theorem k_351 : (Jvm.Cond.selects "Signatory" ({ cls := "java/lang/Object", name := "getClass", desc := "()Ljava/lang/Class;" } : Jvm.MethodName) ({ cls := "java/lang/Object", name := "getClass", desc := "()Ljava/lang/Class;" } : Jvm.MethodName)) ∈ lw_tbl := lw_m2 (List.mem_of_getElem? (i := 111) rfl)
theorem k_352 : (Jvm.Cond.selects "Signatory$Deed" ({ cls := "java/lang/Object", name := "getClass", desc := "()Ljava/lang/Class;" } : Jvm.MethodName) ({ cls := "java/lang/Object", name := "getClass", desc := "()Ljava/lang/Class;" } : Jvm.MethodName)) ∈ lw_tbl := lw_m2 (List.mem_of_getElem? (i := 112) rfl)
theorem k_353 : (Jvm.Cond.selects "Signatory$Moment" ({ cls := "java/lang/Object", name := "getClass", desc := "()Ljava/lang/Class;" } : Jvm.MethodName) ({ cls := "java/lang/Object", name := "getClass", desc := "()Ljava/lang/Class;" } : Jvm.MethodName)) ∈ lw_tbl := lw_m2 (List.mem_of_getElem? (i := 113) rfl)
theorem k_354 : (Jvm.Cond.selects "Signatory$Paper" ({ cls := "java/lang/Object", name := "getClass", desc := "()Ljava/lang/Class;" } : Jvm.MethodName) ({ cls := "java/lang/Object", name := "getClass", desc := "()Ljava/lang/Class;" } : Jvm.MethodName)) ∈ lw_tbl := lw_m2 (List.mem_of_getElem? (i := 114) rfl)
theorem k_355 : (Jvm.Cond.selects "Signatory$Power" ({ cls := "java/lang/Object", name := "getClass", desc := "()Ljava/lang/Class;" } : Jvm.MethodName) ({ cls := "java/lang/Object", name := "getClass", desc := "()Ljava/lang/Class;" } : Jvm.MethodName)) ∈ lw_tbl := lw_m2 (List.mem_of_getElem? (i := 115) rfl)
theorem k_356 : (Jvm.Cond.selects "SignatoryModel" ({ cls := "java/lang/Object", name := "getClass", desc := "()Ljava/lang/Class;" } : Jvm.MethodName) ({ cls := "java/lang/Object", name := "getClass", desc := "()Ljava/lang/Class;" } : Jvm.MethodName)) ∈ lw_tbl := lw_m2 (List.mem_of_getElem? (i := 116) rfl)
theorem k_357 : (Jvm.Cond.selects "java/lang/IllegalArgumentException" ({ cls := "java/lang/Object", name := "getClass", desc := "()Ljava/lang/Class;" } : Jvm.MethodName) ({ cls := "java/lang/Object", name := "getClass", desc := "()Ljava/lang/Class;" } : Jvm.MethodName)) ∈ lw_tbl := lw_m2 (List.mem_of_getElem? (i := 117) rfl)
theorem k_358 : (Jvm.Cond.selects "java/lang/IllegalStateException" ({ cls := "java/lang/Object", name := "getClass", desc := "()Ljava/lang/Class;" } : Jvm.MethodName) ({ cls := "java/lang/Object", name := "getClass", desc := "()Ljava/lang/Class;" } : Jvm.MethodName)) ∈ lw_tbl := lw_m2 (List.mem_of_getElem? (i := 118) rfl)
theorem k_359 : (Jvm.Cond.selects "java/lang/IndexOutOfBoundsException" ({ cls := "java/lang/Object", name := "getClass", desc := "()Ljava/lang/Class;" } : Jvm.MethodName) ({ cls := "java/lang/Object", name := "getClass", desc := "()Ljava/lang/Class;" } : Jvm.MethodName)) ∈ lw_tbl := lw_m2 (List.mem_of_getElem? (i := 119) rfl)
theorem k_360 : (Jvm.Cond.selects "java/lang/UnsupportedOperationException" ({ cls := "java/lang/Object", name := "getClass", desc := "()Ljava/lang/Class;" } : Jvm.MethodName) ({ cls := "java/lang/Object", name := "getClass", desc := "()Ljava/lang/Class;" } : Jvm.MethodName)) ∈ lw_tbl := lw_m2 (List.mem_of_getElem? (i := 120) rfl)
theorem k_361 : (Jvm.Cond.selects "java/util/ArrayList" ({ cls := "java/lang/Object", name := "getClass", desc := "()Ljava/lang/Class;" } : Jvm.MethodName) ({ cls := "java/lang/Object", name := "getClass", desc := "()Ljava/lang/Class;" } : Jvm.MethodName)) ∈ lw_tbl := lw_m2 (List.mem_of_getElem? (i := 121) rfl)
theorem k_362 : (Jvm.Cond.selects "java/util/NoSuchElementException" ({ cls := "java/lang/Object", name := "getClass", desc := "()Ljava/lang/Class;" } : Jvm.MethodName) ({ cls := "java/lang/Object", name := "getClass", desc := "()Ljava/lang/Class;" } : Jvm.MethodName)) ∈ lw_tbl := lw_m2 (List.mem_of_getElem? (i := 122) rfl)
theorem k_363 : (Jvm.Cond.native ({ cls := "java/lang/Object", name := "getClass", desc := "()Ljava/lang/Class;" } : Jvm.MethodName)) ∈ lw_tbl := lw_m2 (List.mem_of_getElem? (i := 123) rfl)
theorem k_364 : (Jvm.Cond.methodLink "java/util/Arrays" (300 : Nat) ({ cls := "java/util/Arrays", name := "copyOf", desc := "([Ljava/lang/Object;ILjava/lang/Class;)[Ljava/lang/Object;" } : Jvm.MethodName)) ∈ lw_tbl := lw_m2 (List.mem_of_getElem? (i := 124) rfl)
theorem k_365 : (Jvm.Cond.static ({ cls := "java/util/Arrays", name := "copyOf", desc := "([Ljava/lang/Object;ILjava/lang/Class;)[Ljava/lang/Object;" } : Jvm.MethodName)) ∈ lw_tbl := lw_m2 (List.mem_of_getElem? (i := 125) rfl)
theorem k_366 : (Jvm.Cond.code ({ cls := "java/util/Arrays", name := "copyOf", desc := "([Ljava/lang/Object;ILjava/lang/Class;)[Ljava/lang/Object;" } : Jvm.MethodName) prog_31_method_120_code (4 : Nat) (Option.some (Jvm.ClassFile.FieldType.array (Jvm.ClassFile.FieldType.object "java/lang/Object")))) ∈ lw_tbl := lw_m2 (List.mem_of_getElem? (i := 126) rfl)
theorem k_367 : (Jvm.Cond.classLink "java/util/Arrays" (110 : Nat) "[Ljava/lang/Object;") ∈ lw_tbl := lw_m2 (List.mem_of_getElem? (i := 127) rfl)
theorem k_368 : (Jvm.Cond.arrayOver (Jvm.ClassFile.FieldType.object "java/lang/Object")) ∈ lw_tbl := lw_m2 (List.mem_of_getElem? (i := 128) rfl)
theorem k_369 : (Jvm.Cond.classLink "java/util/Arrays" (2 : Nat) "java/lang/Object") ∈ lw_tbl := lw_m2 (List.mem_of_getElem? (i := 129) rfl)
theorem k_370 : (Jvm.Cond.methodLink "java/util/Arrays" (304 : Nat) ({ cls := "java/lang/Math", name := "min", desc := "(II)I" } : Jvm.MethodName)) ∈ lw_tbl := lw_m2 (List.mem_of_getElem? (i := 130) rfl)
theorem k_371 : (Jvm.Cond.static ({ cls := "java/lang/Math", name := "min", desc := "(II)I" } : Jvm.MethodName)) ∈ lw_tbl := lw_m2 (List.mem_of_getElem? (i := 131) rfl)
theorem k_372 : (Jvm.Cond.code ({ cls := "java/lang/Math", name := "min", desc := "(II)I" } : Jvm.MethodName) prog_18_method_69_code (2 : Nat) (Option.some Jvm.ClassFile.FieldType.int)) ∈ lw_tbl := lw_m2 (List.mem_of_getElem? (i := 132) rfl)
theorem k_373 : (Jvm.Cond.methodLink "java/util/Arrays" (150 : Nat) ({ cls := "java/lang/System", name := "arraycopy", desc := "(Ljava/lang/Object;ILjava/lang/Object;II)V" } : Jvm.MethodName)) ∈ lw_tbl := lw_m2 (List.mem_of_getElem? (i := 133) rfl)
theorem k_374 : (Jvm.Cond.static ({ cls := "java/lang/System", name := "arraycopy", desc := "(Ljava/lang/Object;ILjava/lang/Object;II)V" } : Jvm.MethodName)) ∈ lw_tbl := lw_m2 (List.mem_of_getElem? (i := 134) rfl)
theorem k_375 : (Jvm.Cond.native ({ cls := "java/lang/System", name := "arraycopy", desc := "(Ljava/lang/Object;ILjava/lang/Object;II)V" } : Jvm.MethodName)) ∈ lw_tbl := lw_m2 (List.mem_of_getElem? (i := 135) rfl)
theorem k_376 : (Jvm.Cond.methodLink "java/util/ArrayList" (79 : Nat) ({ cls := "java/lang/Math", name := "max", desc := "(II)I" } : Jvm.MethodName)) ∈ lw_tbl := lw_m2 (List.mem_of_getElem? (i := 136) rfl)
theorem k_377 : (Jvm.Cond.classLink "java/util/ArrayList" (7 : Nat) "java/lang/Object") ∈ lw_tbl := lw_m2 (List.mem_of_getElem? (i := 137) rfl)
theorem k_378 : (Jvm.Cond.methodLink "Signatory" (331 : Nat) ({ cls := "Signatory$Moment", name := "take", desc := "(LSignatory$Paper;)V" } : Jvm.MethodName)) ∈ lw_tbl := lw_m2 (List.mem_of_getElem? (i := 138) rfl)
theorem k_379 : (Jvm.Cond.instanceMethod ({ cls := "Signatory$Moment", name := "take", desc := "(LSignatory$Paper;)V" } : Jvm.MethodName)) ∈ lw_tbl := lw_m2 (List.mem_of_getElem? (i := 139) rfl)
theorem k_380 : (Jvm.Cond.selects "Signatory$Moment" ({ cls := "Signatory$Moment", name := "take", desc := "(LSignatory$Paper;)V" } : Jvm.MethodName) ({ cls := "Signatory$Moment", name := "take", desc := "(LSignatory$Paper;)V" } : Jvm.MethodName)) ∈ lw_tbl := lw_m2 (List.mem_of_getElem? (i := 140) rfl)
theorem k_381 : (Jvm.Cond.code ({ cls := "Signatory$Moment", name := "take", desc := "(LSignatory$Paper;)V" } : Jvm.MethodName) prog_3_method_3_code (3 : Nat) (Option.none : Option Jvm.ClassFile.FieldType)) ∈ lw_tbl := lw_m2 (List.mem_of_getElem? (i := 141) rfl)
theorem k_382 : (Jvm.Cond.methodLink "SignatoryLaw" (148 : Nat) ({ cls := "SignatoryLaw", name := "comeBack", desc := "(LSignatory;I[J)I" } : Jvm.MethodName)) ∈ lw_tbl := lw_m2 (List.mem_of_getElem? (i := 142) rfl)
theorem k_383 : (Jvm.Cond.static ({ cls := "SignatoryLaw", name := "comeBack", desc := "(LSignatory;I[J)I" } : Jvm.MethodName)) ∈ lw_tbl := lw_m2 (List.mem_of_getElem? (i := 143) rfl)
theorem k_384 : (Jvm.Cond.codeWith ({ cls := "SignatoryLaw", name := "comeBack", desc := "(LSignatory;I[J)I" } : Jvm.MethodName) method_5_code (4 : Nat) (Option.some Jvm.ClassFile.FieldType.int) [((0 : Nat), (9 : Nat), (12 : Nat), (19 : Nat)), ((0 : Nat), (9 : Nat), (15 : Nat), (13 : Nat))]) ∈ lw_tbl := lw_m2 (List.mem_of_getElem? (i := 144) rfl)
theorem k_385 : (Jvm.Cond.methodLink "SignatoryLaw" (23 : Nat) ({ cls := "Signatory", name := "comeBack", desc := "(I)I" } : Jvm.MethodName)) ∈ lw_tbl := lw_m2 (List.mem_of_getElem? (i := 145) rfl)
theorem k_386 : (Jvm.Cond.instanceMethod ({ cls := "Signatory", name := "comeBack", desc := "(I)I" } : Jvm.MethodName)) ∈ lw_tbl := lw_m2 (List.mem_of_getElem? (i := 146) rfl)
theorem k_387 : (Jvm.Cond.selects "Signatory" ({ cls := "Signatory", name := "comeBack", desc := "(I)I" } : Jvm.MethodName) ({ cls := "Signatory", name := "comeBack", desc := "(I)I" } : Jvm.MethodName)) ∈ lw_tbl := lw_m2 (List.mem_of_getElem? (i := 147) rfl)
theorem k_388 : (Jvm.Cond.code ({ cls := "Signatory", name := "comeBack", desc := "(I)I" } : Jvm.MethodName) prog_1_method_4_code (3 : Nat) (Option.some Jvm.ClassFile.FieldType.int)) ∈ lw_tbl := lw_m2 (List.mem_of_getElem? (i := 148) rfl)
theorem k_389 : (Jvm.Cond.stringRef "Signatory" (63 : Nat) "the person is present") ∈ lw_tbl := lw_m2 (List.mem_of_getElem? (i := 149) rfl)
theorem k_390 : (Jvm.Cond.methodLink "SignatoryLaw" (152 : Nat) ({ cls := "SignatoryLaw", name := "actsFor", desc := "(LSignatory;II[J)I" } : Jvm.MethodName)) ∈ lw_tbl := lw_m2 (List.mem_of_getElem? (i := 150) rfl)
theorem k_391 : (Jvm.Cond.static ({ cls := "SignatoryLaw", name := "actsFor", desc := "(LSignatory;II[J)I" } : Jvm.MethodName)) ∈ lw_tbl := lw_m2 (List.mem_of_getElem? (i := 151) rfl)
theorem k_392 : (Jvm.Cond.codeWith ({ cls := "SignatoryLaw", name := "actsFor", desc := "(LSignatory;II[J)I" } : Jvm.MethodName) method_6_code (5 : Nat) (Option.some Jvm.ClassFile.FieldType.int) [((0 : Nat), (17 : Nat), (20 : Nat), (19 : Nat))]) ∈ lw_tbl := lw_m2 (List.mem_of_getElem? (i := 152) rfl)
theorem k_393 : (Jvm.Cond.methodLink "SignatoryLaw" (27 : Nat) ({ cls := "Signatory", name := "actsFor", desc := "(II)Z" } : Jvm.MethodName)) ∈ lw_tbl := lw_m2 (List.mem_of_getElem? (i := 153) rfl)
theorem k_394 : (Jvm.Cond.instanceMethod ({ cls := "Signatory", name := "actsFor", desc := "(II)Z" } : Jvm.MethodName)) ∈ lw_tbl := lw_m2 (List.mem_of_getElem? (i := 154) rfl)
theorem k_395 : (Jvm.Cond.selects "Signatory" ({ cls := "Signatory", name := "actsFor", desc := "(II)Z" } : Jvm.MethodName) ({ cls := "Signatory", name := "actsFor", desc := "(II)Z" } : Jvm.MethodName)) ∈ lw_tbl := lw_m2 (List.mem_of_getElem? (i := 155) rfl)
theorem k_396 : (Jvm.Cond.code ({ cls := "Signatory", name := "actsFor", desc := "(II)Z" } : Jvm.MethodName) prog_1_method_5_code (3 : Nat) (Option.some Jvm.ClassFile.FieldType.boolean)) ∈ lw_tbl := lw_m2 (List.mem_of_getElem? (i := 156) rfl)
theorem k_397 : (Jvm.Cond.methodLink "Signatory" (65 : Nat) ({ cls := "Signatory$Moment", name := "actsByPowersOf", desc := "(II)Z" } : Jvm.MethodName)) ∈ lw_tbl := lw_m2 (List.mem_of_getElem? (i := 157) rfl)
theorem k_398 : (Jvm.Cond.instanceMethod ({ cls := "Signatory$Moment", name := "actsByPowersOf", desc := "(II)Z" } : Jvm.MethodName)) ∈ lw_tbl := lw_m2 (List.mem_of_getElem? (i := 158) rfl)
theorem k_399 : (Jvm.Cond.selects "Signatory$Moment" ({ cls := "Signatory$Moment", name := "actsByPowersOf", desc := "(II)Z" } : Jvm.MethodName) ({ cls := "Signatory$Moment", name := "actsByPowersOf", desc := "(II)Z" } : Jvm.MethodName)) ∈ lw_tbl := lw_m2 (List.mem_of_getElem? (i := 159) rfl)
theorem k_400 : (Jvm.Cond.code ({ cls := "Signatory$Moment", name := "actsByPowersOf", desc := "(II)Z" } : Jvm.MethodName) prog_3_method_8_code (3 : Nat) (Option.some Jvm.ClassFile.FieldType.boolean)) ∈ lw_tbl := lw_m2 (List.mem_of_getElem? (i := 160) rfl)
theorem k_401 : (Jvm.Cond.methodLink "Signatory$Moment" (58 : Nat) ({ cls := "Signatory$Moment", name := "substituteFor", desc := "(I)I" } : Jvm.MethodName)) ∈ lw_tbl := lw_m2 (List.mem_of_getElem? (i := 161) rfl)
theorem k_402 : (Jvm.Cond.methodLink "SignatoryLaw" (155 : Nat) ({ cls := "SignatoryLaw", name := "grant", desc := "(LSignatory;IICIII[J)I" } : Jvm.MethodName)) ∈ lw_tbl := lw_m2 (List.mem_of_getElem? (i := 162) rfl)
theorem k_403 : (Jvm.Cond.static ({ cls := "SignatoryLaw", name := "grant", desc := "(LSignatory;IICIII[J)I" } : Jvm.MethodName)) ∈ lw_tbl := lw_m2 (List.mem_of_getElem? (i := 163) rfl)
theorem k_404 : (Jvm.Cond.codeWith ({ cls := "SignatoryLaw", name := "grant", desc := "(LSignatory;IICIII[J)I" } : Jvm.MethodName) method_7_code (9 : Nat) (Option.some Jvm.ClassFile.FieldType.int) [((0 : Nat), (18 : Nat), (21 : Nat), (19 : Nat)), ((0 : Nat), (18 : Nat), (25 : Nat), (21 : Nat)), ((0 : Nat), (18 : Nat), (29 : Nat), (13 : Nat))]) ∈ lw_tbl := lw_m2 (List.mem_of_getElem? (i := 164) rfl)
theorem k_405 : (Jvm.Cond.methodLink "SignatoryLaw" (31 : Nat) ({ cls := "Signatory", name := "grant", desc := "(IICIII)I" } : Jvm.MethodName)) ∈ lw_tbl := lw_m2 (List.mem_of_getElem? (i := 165) rfl)
theorem k_406 : (Jvm.Cond.instanceMethod ({ cls := "Signatory", name := "grant", desc := "(IICIII)I" } : Jvm.MethodName)) ∈ lw_tbl := lw_m2 (List.mem_of_getElem? (i := 166) rfl)
theorem k_407 : (Jvm.Cond.selects "Signatory" ({ cls := "Signatory", name := "grant", desc := "(IICIII)I" } : Jvm.MethodName) ({ cls := "Signatory", name := "grant", desc := "(IICIII)I" } : Jvm.MethodName)) ∈ lw_tbl := lw_m2 (List.mem_of_getElem? (i := 167) rfl)
theorem k_408 : (Jvm.Cond.code ({ cls := "Signatory", name := "grant", desc := "(IICIII)I" } : Jvm.MethodName) prog_1_method_6_code (7 : Nat) (Option.some Jvm.ClassFile.FieldType.int)) ∈ lw_tbl := lw_m2 (List.mem_of_getElem? (i := 168) rfl)
theorem k_409 : (Jvm.Cond.methodLink "Signatory" (69 : Nat) ({ cls := "Signatory", name := "requireKind", desc := "(I)V" } : Jvm.MethodName)) ∈ lw_tbl := lw_m2 (List.mem_of_getElem? (i := 169) rfl)
theorem k_410 : (Jvm.Cond.static ({ cls := "Signatory", name := "requireKind", desc := "(I)V" } : Jvm.MethodName)) ∈ lw_tbl := lw_m2 (List.mem_of_getElem? (i := 170) rfl)
theorem k_411 : (Jvm.Cond.code ({ cls := "Signatory", name := "requireKind", desc := "(I)V" } : Jvm.MethodName) prog_1_method_42_code (1 : Nat) (Option.none : Option Jvm.ClassFile.FieldType)) ∈ lw_tbl := lw_m2 (List.mem_of_getElem? (i := 171) rfl)
theorem k_412 : (Jvm.Cond.methodLink "Signatory" (133 : Nat) ({ cls := "Signatory", name := "isBetween", desc := "(III)Z" } : Jvm.MethodName)) ∈ lw_tbl := lw_m2 (List.mem_of_getElem? (i := 172) rfl)
theorem k_413 : (Jvm.Cond.static ({ cls := "Signatory", name := "isBetween", desc := "(III)Z" } : Jvm.MethodName)) ∈ lw_tbl := lw_m2 (List.mem_of_getElem? (i := 173) rfl)
theorem k_414 : (Jvm.Cond.code ({ cls := "Signatory", name := "isBetween", desc := "(III)Z" } : Jvm.MethodName) prog_1_method_37_code (3 : Nat) (Option.some Jvm.ClassFile.FieldType.boolean)) ∈ lw_tbl := lw_m2 (List.mem_of_getElem? (i := 174) rfl)
theorem k_415 : (Jvm.Cond.stringRef "Signatory" (298 : Nat) "no such kind") ∈ lw_tbl := lw_m2 (List.mem_of_getElem? (i := 175) rfl)
theorem k_416 : (Jvm.Cond.methodLink "Signatory" (72 : Nat) ({ cls := "Signatory", name := "bitOfHand", desc := "(C)I" } : Jvm.MethodName)) ∈ lw_tbl := lw_m2 (List.mem_of_getElem? (i := 176) rfl)
theorem k_417 : (Jvm.Cond.static ({ cls := "Signatory", name := "bitOfHand", desc := "(C)I" } : Jvm.MethodName)) ∈ lw_tbl := lw_m2 (List.mem_of_getElem? (i := 177) rfl)
theorem k_418 : (Jvm.Cond.code ({ cls := "Signatory", name := "bitOfHand", desc := "(C)I" } : Jvm.MethodName) prog_1_method_54_code (1 : Nat) (Option.some Jvm.ClassFile.FieldType.int)) ∈ lw_tbl := lw_m2 (List.mem_of_getElem? (i := 178) rfl)
theorem k_419 : (Jvm.Cond.stringRef "Signatory" (76 : Nat) "no such hand") ∈ lw_tbl := lw_m2 (List.mem_of_getElem? (i := 179) rfl)
theorem k_420 : (Jvm.Cond.methodLink "Signatory" (78 : Nat) ({ cls := "Signatory", name := "requireLimitAndDays", desc := "(III)V" } : Jvm.MethodName)) ∈ lw_tbl := lw_m2 (List.mem_of_getElem? (i := 180) rfl)
theorem k_421 : (Jvm.Cond.static ({ cls := "Signatory", name := "requireLimitAndDays", desc := "(III)V" } : Jvm.MethodName)) ∈ lw_tbl := lw_m2 (List.mem_of_getElem? (i := 181) rfl)
theorem k_422 : (Jvm.Cond.code ({ cls := "Signatory", name := "requireLimitAndDays", desc := "(III)V" } : Jvm.MethodName) prog_1_method_44_code (3 : Nat) (Option.none : Option Jvm.ClassFile.FieldType)) ∈ lw_tbl := lw_m2 (List.mem_of_getElem? (i := 182) rfl)
theorem k_423 : (Jvm.Cond.constant "Signatory" (300 : Nat) (99999 : Int32)) ∈ lw_tbl := lw_m2 (List.mem_of_getElem? (i := 183) rfl)
theorem k_424 : (Jvm.Cond.stringRef "Signatory" (303 : Nat) "the limit is not between 1 and 99999") ∈ lw_tbl := lw_m2 (List.mem_of_getElem? (i := 184) rfl)
theorem k_425 : (Jvm.Cond.stringRef "Signatory" (305 : Nat) "these are no first and last day") ∈ lw_tbl := lw_m2 (List.mem_of_getElem? (i := 185) rfl)
theorem k_426 : (Jvm.Cond.methodLink "Signatory" (81 : Nat) ({ cls := "Signatory", name := "requireRoomForPower", desc := "()V" } : Jvm.MethodName)) ∈ lw_tbl := lw_m2 (List.mem_of_getElem? (i := 186) rfl)
theorem k_427 : (Jvm.Cond.privateMethod ({ cls := "Signatory", name := "requireRoomForPower", desc := "()V" } : Jvm.MethodName)) ∈ lw_tbl := lw_m2 (List.mem_of_getElem? (i := 187) rfl)
theorem k_428 : (Jvm.Cond.instanceMethod ({ cls := "Signatory", name := "requireRoomForPower", desc := "()V" } : Jvm.MethodName)) ∈ lw_tbl := lw_m2 (List.mem_of_getElem? (i := 188) rfl)
theorem k_429 : (Jvm.Cond.code ({ cls := "Signatory", name := "requireRoomForPower", desc := "()V" } : Jvm.MethodName) prog_1_method_48_code (1 : Nat) (Option.none : Option Jvm.ClassFile.FieldType)) ∈ lw_tbl := lw_m2 (List.mem_of_getElem? (i := 189) rfl)
theorem k_430 : (Jvm.Cond.stringRef "Signatory" (315 : Nat) "there are 20 powers") ∈ lw_tbl := lw_m2 (List.mem_of_getElem? (i := 190) rfl)
theorem k_431 : (Jvm.Cond.classLink "Signatory" (84 : Nat) "Signatory$Power") ∈ lw_tbl := lw_m2 (List.mem_of_getElem? (i := 191) rfl)
theorem k_432 : (Jvm.Cond.instantiable "Signatory$Power" (7 : Nat)) ∈ lw_tbl := lw_m2 (List.mem_of_getElem? (i := 192) rfl)
theorem k_433 : (Jvm.Cond.methodLink "Signatory" (92 : Nat) ({ cls := "Signatory$Power", name := "<init>", desc := "(IIIIIILSignatory$Power;)V" } : Jvm.MethodName)) ∈ lw_tbl := lw_m2 (List.mem_of_getElem? (i := 193) rfl)
theorem k_434 : (Jvm.Cond.instanceMethod ({ cls := "Signatory$Power", name := "<init>", desc := "(IIIIIILSignatory$Power;)V" } : Jvm.MethodName)) ∈ lw_tbl := lw_m2 (List.mem_of_getElem? (i := 194) rfl)
theorem k_435 : (Jvm.Cond.code ({ cls := "Signatory$Power", name := "<init>", desc := "(IIIIIILSignatory$Power;)V" } : Jvm.MethodName) prog_5_method_1_code (8 : Nat) (Option.none : Option Jvm.ClassFile.FieldType)) ∈ lw_tbl := lw_m2 (List.mem_of_getElem? (i := 195) rfl)
theorem k_436 : (Jvm.Cond.methodLink "Signatory$Power" (1 : Nat) ({ cls := "java/lang/Object", name := "<init>", desc := "()V" } : Jvm.MethodName)) ∈ lw_tbl := lw_m2 (List.mem_of_getElem? (i := 196) rfl)
theorem k_437 : (Jvm.Cond.fieldLink "Signatory$Power" (7 : Nat) "Signatory$Power" "number" "I") ∈ lw_tbl := lw_m2 (List.mem_of_getElem? (i := 197) rfl)
theorem k_438 : (Jvm.Cond.fieldLink "Signatory$Moment" (50 : Nat) "Signatory$Power" "number" "I") ∈ lw_tbl := lw_m2 (List.mem_of_getElem? (i := 198) rfl)
theorem k_439 : (Jvm.Cond.fieldLink "Signatory" (146 : Nat) "Signatory$Power" "number" "I") ∈ lw_tbl := lw_m2 (List.mem_of_getElem? (i := 199) rfl)
theorem k_440 : (Jvm.Cond.fieldLink "Signatory$Power" (13 : Nat) "Signatory$Power" "holder" "I") ∈ lw_tbl := lw_m2 (List.mem_of_getElem? (i := 200) rfl)
theorem k_441 : (Jvm.Cond.fieldLink "Signatory" (103 : Nat) "Signatory$Power" "holder" "I") ∈ lw_tbl := lw_m2 (List.mem_of_getElem? (i := 201) rfl)
theorem k_442 : (Jvm.Cond.fieldLink "Signatory$Power" (16 : Nat) "Signatory$Power" "kind" "I") ∈ lw_tbl := lw_m2 (List.mem_of_getElem? (i := 202) rfl)
theorem k_443 : (Jvm.Cond.fieldLink "Signatory" (127 : Nat) "Signatory$Power" "kind" "I") ∈ lw_tbl := lw_m2 (List.mem_of_getElem? (i := 203) rfl)
theorem k_444 : (Jvm.Cond.fieldLink "Signatory$Power" (19 : Nat) "Signatory$Power" "hand" "I") ∈ lw_tbl := lw_m2 (List.mem_of_getElem? (i := 204) rfl)
theorem k_445 : (Jvm.Cond.fieldLink "Signatory" (130 : Nat) "Signatory$Power" "hand" "I") ∈ lw_tbl := lw_m2 (List.mem_of_getElem? (i := 205) rfl)
theorem k_446 : (Jvm.Cond.fieldLink "Signatory$Power" (22 : Nat) "Signatory$Power" "first" "I") ∈ lw_tbl := lw_m2 (List.mem_of_getElem? (i := 206) rfl)
theorem k_447 : (Jvm.Cond.fieldLink "Signatory" (110 : Nat) "Signatory$Power" "first" "I") ∈ lw_tbl := lw_m2 (List.mem_of_getElem? (i := 207) rfl)
theorem k_448 : (Jvm.Cond.fieldLink "Signatory$Moment" (62 : Nat) "Signatory$Power" "first" "I") ∈ lw_tbl := lw_m2 (List.mem_of_getElem? (i := 208) rfl)
theorem k_449 : (Jvm.Cond.fieldLink "Signatory$Power" (25 : Nat) "Signatory$Power" "last" "I") ∈ lw_tbl := lw_m2 (List.mem_of_getElem? (i := 209) rfl)
theorem k_450 : (Jvm.Cond.fieldLink "Signatory" (113 : Nat) "Signatory$Power" "last" "I") ∈ lw_tbl := lw_m2 (List.mem_of_getElem? (i := 210) rfl)
theorem k_451 : (Jvm.Cond.fieldLink "Signatory$Moment" (65 : Nat) "Signatory$Power" "last" "I") ∈ lw_tbl := lw_m2 (List.mem_of_getElem? (i := 211) rfl)
theorem k_452 : (Jvm.Cond.fieldLink "Signatory$Power" (28 : Nat) "Signatory$Power" "source" "LSignatory$Power;") ∈ lw_tbl := lw_m2 (List.mem_of_getElem? (i := 212) rfl)
theorem k_453 : (Jvm.Cond.fieldLink "Signatory" (142 : Nat) "Signatory$Power" "source" "LSignatory$Power;") ∈ lw_tbl := lw_m2 (List.mem_of_getElem? (i := 213) rfl)
theorem k_454 : (Jvm.Cond.fieldLink "Signatory$Moment" (84 : Nat) "Signatory$Power" "source" "LSignatory$Power;") ∈ lw_tbl := lw_m2 (List.mem_of_getElem? (i := 214) rfl)
theorem k_455 : (Jvm.Cond.laysFinal "Signatory$Power" "Signatory$Power" "number" "I") ∈ lw_tbl := lw_m2 (List.mem_of_getElem? (i := 215) rfl)
theorem k_456 : (Jvm.Cond.soleField "Signatory$Power" "number") ∈ lw_tbl := lw_m2 (List.mem_of_getElem? (i := 216) rfl)
theorem k_457 : (Jvm.Cond.laysFinal "Signatory$Power" "Signatory$Power" "holder" "I") ∈ lw_tbl := lw_m2 (List.mem_of_getElem? (i := 217) rfl)
theorem k_458 : (Jvm.Cond.soleField "Signatory$Power" "holder") ∈ lw_tbl := lw_m2 (List.mem_of_getElem? (i := 218) rfl)
theorem k_459 : (Jvm.Cond.laysFinal "Signatory$Power" "Signatory$Power" "kind" "I") ∈ lw_tbl := lw_m2 (List.mem_of_getElem? (i := 219) rfl)
theorem k_460 : (Jvm.Cond.soleField "Signatory$Power" "kind") ∈ lw_tbl := lw_m2 (List.mem_of_getElem? (i := 220) rfl)
theorem k_461 : (Jvm.Cond.laysFinal "Signatory$Power" "Signatory$Power" "hand" "I") ∈ lw_tbl := lw_m2 (List.mem_of_getElem? (i := 221) rfl)
theorem k_462 : (Jvm.Cond.soleField "Signatory$Power" "hand") ∈ lw_tbl := lw_m2 (List.mem_of_getElem? (i := 222) rfl)
theorem k_463 : (Jvm.Cond.laysFinal "Signatory$Power" "Signatory$Power" "first" "I") ∈ lw_tbl := lw_m2 (List.mem_of_getElem? (i := 223) rfl)
theorem k_464 : (Jvm.Cond.soleField "Signatory$Power" "first") ∈ lw_tbl := lw_m2 (List.mem_of_getElem? (i := 224) rfl)
theorem k_465 : (Jvm.Cond.laysFinal "Signatory$Power" "Signatory$Power" "last" "I") ∈ lw_tbl := lw_m2 (List.mem_of_getElem? (i := 225) rfl)
theorem k_466 : (Jvm.Cond.soleField "Signatory$Power" "last") ∈ lw_tbl := lw_m2 (List.mem_of_getElem? (i := 226) rfl)
theorem k_467 : (Jvm.Cond.laysFinal "Signatory$Power" "Signatory$Power" "source" "LSignatory$Power;") ∈ lw_tbl := lw_m2 (List.mem_of_getElem? (i := 227) rfl)
theorem k_468 : (Jvm.Cond.soleField "Signatory$Power" "source") ∈ lw_tbl := lw_m2 (List.mem_of_getElem? (i := 228) rfl)
theorem k_469 : (Jvm.Cond.superclass "Signatory$Power" "java/lang/Object") ∈ lw_tbl := lw_m2 (List.mem_of_getElem? (i := 229) rfl)
theorem k_470 : (Jvm.Cond.methodLink "Signatory" (95 : Nat) ({ cls := "Signatory", name := "keepPower", desc := "(LSignatory$Power;I)I" } : Jvm.MethodName)) ∈ lw_tbl := lw_m2 (List.mem_of_getElem? (i := 230) rfl)
theorem k_471 : (Jvm.Cond.privateMethod ({ cls := "Signatory", name := "keepPower", desc := "(LSignatory$Power;I)I" } : Jvm.MethodName)) ∈ lw_tbl := lw_m2 (List.mem_of_getElem? (i := 231) rfl)
theorem k_472 : (Jvm.Cond.instanceMethod ({ cls := "Signatory", name := "keepPower", desc := "(LSignatory$Power;I)I" } : Jvm.MethodName)) ∈ lw_tbl := lw_m2 (List.mem_of_getElem? (i := 232) rfl)
theorem k_473 : (Jvm.Cond.code ({ cls := "Signatory", name := "keepPower", desc := "(LSignatory$Power;I)I" } : Jvm.MethodName) prog_1_method_55_code (3 : Nat) (Option.some Jvm.ClassFile.FieldType.int)) ∈ lw_tbl := lw_m2 (List.mem_of_getElem? (i := 233) rfl)
theorem k_474 : (Jvm.Cond.methodLink "SignatoryLaw" (159 : Nat) ({ cls := "SignatoryLaw", name := "delegate", desc := "(LSignatory;IIIII[J)I" } : Jvm.MethodName)) ∈ lw_tbl := lw_m2 (List.mem_of_getElem? (i := 234) rfl)
theorem k_475 : (Jvm.Cond.static ({ cls := "SignatoryLaw", name := "delegate", desc := "(LSignatory;IIIII[J)I" } : Jvm.MethodName)) ∈ lw_tbl := lw_m2 (List.mem_of_getElem? (i := 235) rfl)
theorem k_476 : (Jvm.Cond.codeWith ({ cls := "SignatoryLaw", name := "delegate", desc := "(LSignatory;IIIII[J)I" } : Jvm.MethodName) method_8_code (8 : Nat) (Option.some Jvm.ClassFile.FieldType.int) [((0 : Nat), (16 : Nat), (19 : Nat), (19 : Nat)), ((0 : Nat), (16 : Nat), (23 : Nat), (21 : Nat)), ((0 : Nat), (16 : Nat), (27 : Nat), (39 : Nat)), ((0 : Nat), (16 : Nat), (31 : Nat), (13 : Nat))]) ∈ lw_tbl := lw_m2 (List.mem_of_getElem? (i := 236) rfl)
theorem k_477 : (Jvm.Cond.classLink "SignatoryLaw" (39 : Nat) "java/lang/UnsupportedOperationException") ∈ lw_tbl := lw_m2 (List.mem_of_getElem? (i := 237) rfl)
theorem k_478 : (Jvm.Cond.methodLink "SignatoryLaw" (35 : Nat) ({ cls := "Signatory", name := "delegate", desc := "(IIIII)I" } : Jvm.MethodName)) ∈ lw_tbl := lw_m2 (List.mem_of_getElem? (i := 238) rfl)
theorem k_479 : (Jvm.Cond.instanceMethod ({ cls := "Signatory", name := "delegate", desc := "(IIIII)I" } : Jvm.MethodName)) ∈ lw_tbl := lw_m2 (List.mem_of_getElem? (i := 239) rfl)
theorem k_480 : (Jvm.Cond.selects "Signatory" ({ cls := "Signatory", name := "delegate", desc := "(IIIII)I" } : Jvm.MethodName) ({ cls := "Signatory", name := "delegate", desc := "(IIIII)I" } : Jvm.MethodName)) ∈ lw_tbl := lw_m3 (List.mem_of_getElem? (i := 0) rfl)
theorem k_481 : (Jvm.Cond.code ({ cls := "Signatory", name := "delegate", desc := "(IIIII)I" } : Jvm.MethodName) prog_1_method_7_code (7 : Nat) (Option.some Jvm.ClassFile.FieldType.int)) ∈ lw_tbl := lw_m3 (List.mem_of_getElem? (i := 1) rfl)
theorem k_482 : (Jvm.Cond.methodLink "Signatory" (99 : Nat) ({ cls := "Signatory", name := "findPower", desc := "(I)LSignatory$Power;" } : Jvm.MethodName)) ∈ lw_tbl := lw_m3 (List.mem_of_getElem? (i := 2) rfl)
theorem k_483 : (Jvm.Cond.privateMethod ({ cls := "Signatory", name := "findPower", desc := "(I)LSignatory$Power;" } : Jvm.MethodName)) ∈ lw_tbl := lw_m3 (List.mem_of_getElem? (i := 3) rfl)
theorem k_484 : (Jvm.Cond.instanceMethod ({ cls := "Signatory", name := "findPower", desc := "(I)LSignatory$Power;" } : Jvm.MethodName)) ∈ lw_tbl := lw_m3 (List.mem_of_getElem? (i := 4) rfl)
theorem k_485 : (Jvm.Cond.code ({ cls := "Signatory", name := "findPower", desc := "(I)LSignatory$Power;" } : Jvm.MethodName) prog_1_method_40_code (2 : Nat) (Option.some (Jvm.ClassFile.FieldType.object "Signatory$Power"))) ∈ lw_tbl := lw_m3 (List.mem_of_getElem? (i := 5) rfl)
theorem k_486 : (Jvm.Cond.stringRef "Signatory" (294 : Nat) "no such power") ∈ lw_tbl := lw_m3 (List.mem_of_getElem? (i := 6) rfl)
theorem k_487 : (Jvm.Cond.methodLink "Signatory" (106 : Nat) ({ cls := "Signatory$Moment", name := "limitOf", desc := "(LSignatory$Power;)I" } : Jvm.MethodName)) ∈ lw_tbl := lw_m3 (List.mem_of_getElem? (i := 7) rfl)
theorem k_488 : (Jvm.Cond.instanceMethod ({ cls := "Signatory$Moment", name := "limitOf", desc := "(LSignatory$Power;)I" } : Jvm.MethodName)) ∈ lw_tbl := lw_m3 (List.mem_of_getElem? (i := 8) rfl)
theorem k_489 : (Jvm.Cond.selects "Signatory$Moment" ({ cls := "Signatory$Moment", name := "limitOf", desc := "(LSignatory$Power;)I" } : Jvm.MethodName) ({ cls := "Signatory$Moment", name := "limitOf", desc := "(LSignatory$Power;)I" } : Jvm.MethodName)) ∈ lw_tbl := lw_m3 (List.mem_of_getElem? (i := 9) rfl)
theorem k_490 : (Jvm.Cond.code ({ cls := "Signatory$Moment", name := "limitOf", desc := "(LSignatory$Power;)I" } : Jvm.MethodName) prog_3_method_4_code (3 : Nat) (Option.some Jvm.ClassFile.FieldType.int)) ∈ lw_tbl := lw_m3 (List.mem_of_getElem? (i := 10) rfl)
theorem k_491 : (Jvm.Cond.classLink "Signatory" (116 : Nat) "java/lang/UnsupportedOperationException") ∈ lw_tbl := lw_m3 (List.mem_of_getElem? (i := 11) rfl)
theorem k_492 : (Jvm.Cond.instantiable "java/lang/UnsupportedOperationException" (6 : Nat)) ∈ lw_tbl := lw_m3 (List.mem_of_getElem? (i := 12) rfl)
theorem k_493 : (Jvm.Cond.castable "java/lang/UnsupportedOperationException" "java/lang/UnsupportedOperationException") ∈ lw_tbl := lw_m3 (List.mem_of_getElem? (i := 13) rfl)
theorem k_494 : (Jvm.Cond.selects "java/lang/UnsupportedOperationException" ({ cls := "java/lang/Throwable", name := "fillInStackTrace", desc := "(I)Ljava/lang/Throwable;" } : Jvm.MethodName) ({ cls := "java/lang/Throwable", name := "fillInStackTrace", desc := "(I)Ljava/lang/Throwable;" } : Jvm.MethodName)) ∈ lw_tbl := lw_m3 (List.mem_of_getElem? (i := 14) rfl)
theorem k_495 : (Jvm.Cond.lays "java/lang/UnsupportedOperationException" "java/lang/Throwable" "cause" "Ljava/lang/Throwable;") ∈ lw_tbl := lw_m3 (List.mem_of_getElem? (i := 15) rfl)
theorem k_496 : (Jvm.Cond.lays "java/lang/UnsupportedOperationException" "java/lang/Throwable" "stackTrace" "[Ljava/lang/StackTraceElement;") ∈ lw_tbl := lw_m3 (List.mem_of_getElem? (i := 16) rfl)
theorem k_497 : (Jvm.Cond.lays "java/lang/UnsupportedOperationException" "java/lang/Throwable" "suppressedExceptions" "Ljava/util/List;") ∈ lw_tbl := lw_m3 (List.mem_of_getElem? (i := 17) rfl)
theorem k_498 : (Jvm.Cond.lays "java/lang/UnsupportedOperationException" "java/lang/Throwable" "detailMessage" "Ljava/lang/String;") ∈ lw_tbl := lw_m3 (List.mem_of_getElem? (i := 18) rfl)
theorem k_499 : (Jvm.Cond.lays "java/lang/UnsupportedOperationException" "java/lang/Throwable" "backtrace" "Ljava/lang/Object;") ∈ lw_tbl := lw_m3 (List.mem_of_getElem? (i := 19) rfl)
theorem k_500 : (Jvm.Cond.stringRef "Signatory" (118 : Nat) "the power cannot be delegated like this") ∈ lw_tbl := lw_m3 (List.mem_of_getElem? (i := 20) rfl)
theorem k_501 : (Jvm.Cond.methodLink "Signatory" (120 : Nat) ({ cls := "java/lang/UnsupportedOperationException", name := "<init>", desc := "(Ljava/lang/String;)V" } : Jvm.MethodName)) ∈ lw_tbl := lw_m3 (List.mem_of_getElem? (i := 21) rfl)
theorem k_502 : (Jvm.Cond.instanceMethod ({ cls := "java/lang/UnsupportedOperationException", name := "<init>", desc := "(Ljava/lang/String;)V" } : Jvm.MethodName)) ∈ lw_tbl := lw_m3 (List.mem_of_getElem? (i := 22) rfl)
theorem k_503 : (Jvm.Cond.code ({ cls := "java/lang/UnsupportedOperationException", name := "<init>", desc := "(Ljava/lang/String;)V" } : Jvm.MethodName) prog_25_method_2_code (2 : Nat) (Option.none : Option Jvm.ClassFile.FieldType)) ∈ lw_tbl := lw_m3 (List.mem_of_getElem? (i := 23) rfl)
theorem k_504 : (Jvm.Cond.methodLink "java/lang/UnsupportedOperationException" (7 : Nat) ({ cls := "java/lang/RuntimeException", name := "<init>", desc := "(Ljava/lang/String;)V" } : Jvm.MethodName)) ∈ lw_tbl := lw_m3 (List.mem_of_getElem? (i := 24) rfl)
theorem k_505 : (Jvm.Cond.lays "java/lang/UnsupportedOperationException" "java/lang/Throwable" "depth" "I") ∈ lw_tbl := lw_m3 (List.mem_of_getElem? (i := 25) rfl)
theorem k_506 : (Jvm.Cond.superclass "java/lang/UnsupportedOperationException" "java/lang/RuntimeException") ∈ lw_tbl := lw_m3 (List.mem_of_getElem? (i := 26) rfl)
theorem k_507 : (Jvm.Cond.methodLink "Signatory" (121 : Nat) ({ cls := "Signatory$Moment", name := "isRevoked", desc := "(LSignatory$Power;)Z" } : Jvm.MethodName)) ∈ lw_tbl := lw_m3 (List.mem_of_getElem? (i := 27) rfl)
theorem k_508 : (Jvm.Cond.instanceMethod ({ cls := "Signatory$Moment", name := "isRevoked", desc := "(LSignatory$Power;)Z" } : Jvm.MethodName)) ∈ lw_tbl := lw_m3 (List.mem_of_getElem? (i := 28) rfl)
theorem k_509 : (Jvm.Cond.selects "Signatory$Moment" ({ cls := "Signatory$Moment", name := "isRevoked", desc := "(LSignatory$Power;)Z" } : Jvm.MethodName) ({ cls := "Signatory$Moment", name := "isRevoked", desc := "(LSignatory$Power;)Z" } : Jvm.MethodName)) ∈ lw_tbl := lw_m3 (List.mem_of_getElem? (i := 29) rfl)
theorem k_510 : (Jvm.Cond.code ({ cls := "Signatory$Moment", name := "isRevoked", desc := "(LSignatory$Power;)Z" } : Jvm.MethodName) prog_3_method_5_code (3 : Nat) (Option.some Jvm.ClassFile.FieldType.boolean)) ∈ lw_tbl := lw_m3 (List.mem_of_getElem? (i := 30) rfl)
theorem k_511 : (Jvm.Cond.stringRef "Signatory" (125 : Nat) "the power has been revoked") ∈ lw_tbl := lw_m3 (List.mem_of_getElem? (i := 31) rfl)
theorem k_512 : (Jvm.Cond.methodLink "SignatoryLaw" (163 : Nat) ({ cls := "SignatoryLaw", name := "lower", desc := "(LSignatory;II[J)I" } : Jvm.MethodName)) ∈ lw_tbl := lw_m3 (List.mem_of_getElem? (i := 32) rfl)
theorem k_513 : (Jvm.Cond.static ({ cls := "SignatoryLaw", name := "lower", desc := "(LSignatory;II[J)I" } : Jvm.MethodName)) ∈ lw_tbl := lw_m3 (List.mem_of_getElem? (i := 33) rfl)
theorem k_514 : (Jvm.Cond.codeWith ({ cls := "SignatoryLaw", name := "lower", desc := "(LSignatory;II[J)I" } : Jvm.MethodName) method_9_code (5 : Nat) (Option.some Jvm.ClassFile.FieldType.int) [((0 : Nat), (10 : Nat), (13 : Nat), (19 : Nat)), ((0 : Nat), (10 : Nat), (17 : Nat), (21 : Nat))]) ∈ lw_tbl := lw_m3 (List.mem_of_getElem? (i := 34) rfl)
theorem k_515 : (Jvm.Cond.methodLink "SignatoryLaw" (41 : Nat) ({ cls := "Signatory", name := "lower", desc := "(II)I" } : Jvm.MethodName)) ∈ lw_tbl := lw_m3 (List.mem_of_getElem? (i := 35) rfl)
theorem k_516 : (Jvm.Cond.instanceMethod ({ cls := "Signatory", name := "lower", desc := "(II)I" } : Jvm.MethodName)) ∈ lw_tbl := lw_m3 (List.mem_of_getElem? (i := 36) rfl)
theorem k_517 : (Jvm.Cond.selects "Signatory" ({ cls := "Signatory", name := "lower", desc := "(II)I" } : Jvm.MethodName) ({ cls := "Signatory", name := "lower", desc := "(II)I" } : Jvm.MethodName)) ∈ lw_tbl := lw_m3 (List.mem_of_getElem? (i := 37) rfl)
theorem k_518 : (Jvm.Cond.code ({ cls := "Signatory", name := "lower", desc := "(II)I" } : Jvm.MethodName) prog_1_method_8_code (5 : Nat) (Option.some Jvm.ClassFile.FieldType.int)) ∈ lw_tbl := lw_m3 (List.mem_of_getElem? (i := 38) rfl)
theorem k_519 : (Jvm.Cond.stringRef "Signatory" (137 : Nat) "the new limit is not between 1 and the limit") ∈ lw_tbl := lw_m3 (List.mem_of_getElem? (i := 39) rfl)
theorem k_520 : (Jvm.Cond.methodLink "SignatoryLaw" (166 : Nat) ({ cls := "SignatoryLaw", name := "revoke", desc := "(LSignatory;I[J)I" } : Jvm.MethodName)) ∈ lw_tbl := lw_m3 (List.mem_of_getElem? (i := 40) rfl)
theorem k_521 : (Jvm.Cond.static ({ cls := "SignatoryLaw", name := "revoke", desc := "(LSignatory;I[J)I" } : Jvm.MethodName)) ∈ lw_tbl := lw_m3 (List.mem_of_getElem? (i := 41) rfl)
theorem k_522 : (Jvm.Cond.codeWith ({ cls := "SignatoryLaw", name := "revoke", desc := "(LSignatory;I[J)I" } : Jvm.MethodName) method_10_code (4 : Nat) (Option.some Jvm.ClassFile.FieldType.int) [((0 : Nat), (9 : Nat), (12 : Nat), (19 : Nat)), ((0 : Nat), (9 : Nat), (15 : Nat), (13 : Nat))]) ∈ lw_tbl := lw_m3 (List.mem_of_getElem? (i := 42) rfl)
theorem k_523 : (Jvm.Cond.methodLink "SignatoryLaw" (44 : Nat) ({ cls := "Signatory", name := "revoke", desc := "(I)I" } : Jvm.MethodName)) ∈ lw_tbl := lw_m3 (List.mem_of_getElem? (i := 43) rfl)
theorem k_524 : (Jvm.Cond.instanceMethod ({ cls := "Signatory", name := "revoke", desc := "(I)I" } : Jvm.MethodName)) ∈ lw_tbl := lw_m3 (List.mem_of_getElem? (i := 44) rfl)
theorem k_525 : (Jvm.Cond.selects "Signatory" ({ cls := "Signatory", name := "revoke", desc := "(I)I" } : Jvm.MethodName) ({ cls := "Signatory", name := "revoke", desc := "(I)I" } : Jvm.MethodName)) ∈ lw_tbl := lw_m3 (List.mem_of_getElem? (i := 45) rfl)
theorem k_526 : (Jvm.Cond.code ({ cls := "Signatory", name := "revoke", desc := "(I)I" } : Jvm.MethodName) prog_1_method_9_code (3 : Nat) (Option.some Jvm.ClassFile.FieldType.int)) ∈ lw_tbl := lw_m3 (List.mem_of_getElem? (i := 46) rfl)
theorem k_527 : (Jvm.Cond.methodLink "Signatory" (139 : Nat) ({ cls := "Signatory", name := "countPowersFrom", desc := "(LSignatory$Power;)I" } : Jvm.MethodName)) ∈ lw_tbl := lw_m3 (List.mem_of_getElem? (i := 47) rfl)
theorem k_528 : (Jvm.Cond.privateMethod ({ cls := "Signatory", name := "countPowersFrom", desc := "(LSignatory$Power;)I" } : Jvm.MethodName)) ∈ lw_tbl := lw_m3 (List.mem_of_getElem? (i := 48) rfl)
theorem k_529 : (Jvm.Cond.instanceMethod ({ cls := "Signatory", name := "countPowersFrom", desc := "(LSignatory$Power;)I" } : Jvm.MethodName)) ∈ lw_tbl := lw_m3 (List.mem_of_getElem? (i := 49) rfl)
theorem k_530 : (Jvm.Cond.code ({ cls := "Signatory", name := "countPowersFrom", desc := "(LSignatory$Power;)I" } : Jvm.MethodName) prog_1_method_56_code (4 : Nat) (Option.some Jvm.ClassFile.FieldType.int)) ∈ lw_tbl := lw_m3 (List.mem_of_getElem? (i := 50) rfl)
theorem k_531 : (Jvm.Cond.methodLink "Signatory" (338 : Nat) ({ cls := "Signatory$Power", name := "comesFrom", desc := "(LSignatory$Power;)Z" } : Jvm.MethodName)) ∈ lw_tbl := lw_m3 (List.mem_of_getElem? (i := 51) rfl)
theorem k_532 : (Jvm.Cond.instanceMethod ({ cls := "Signatory$Power", name := "comesFrom", desc := "(LSignatory$Power;)Z" } : Jvm.MethodName)) ∈ lw_tbl := lw_m3 (List.mem_of_getElem? (i := 52) rfl)
theorem k_533 : (Jvm.Cond.selects "Signatory$Power" ({ cls := "Signatory$Power", name := "comesFrom", desc := "(LSignatory$Power;)Z" } : Jvm.MethodName) ({ cls := "Signatory$Power", name := "comesFrom", desc := "(LSignatory$Power;)Z" } : Jvm.MethodName)) ∈ lw_tbl := lw_m3 (List.mem_of_getElem? (i := 53) rfl)
theorem k_534 : (Jvm.Cond.code ({ cls := "Signatory$Power", name := "comesFrom", desc := "(LSignatory$Power;)Z" } : Jvm.MethodName) prog_5_method_2_code (3 : Nat) (Option.some Jvm.ClassFile.FieldType.boolean)) ∈ lw_tbl := lw_m3 (List.mem_of_getElem? (i := 54) rfl)
theorem k_535 : (Jvm.Cond.methodLink "SignatoryLaw" (169 : Nat) ({ cls := "SignatoryLaw", name := "source", desc := "(LSignatory;I[J)I" } : Jvm.MethodName)) ∈ lw_tbl := lw_m3 (List.mem_of_getElem? (i := 55) rfl)
theorem k_536 : (Jvm.Cond.static ({ cls := "SignatoryLaw", name := "source", desc := "(LSignatory;I[J)I" } : Jvm.MethodName)) ∈ lw_tbl := lw_m3 (List.mem_of_getElem? (i := 56) rfl)
theorem k_537 : (Jvm.Cond.codeWith ({ cls := "SignatoryLaw", name := "source", desc := "(LSignatory;I[J)I" } : Jvm.MethodName) method_11_code (4 : Nat) (Option.some Jvm.ClassFile.FieldType.int) [((0 : Nat), (9 : Nat), (12 : Nat), (19 : Nat))]) ∈ lw_tbl := lw_m3 (List.mem_of_getElem? (i := 57) rfl)
theorem k_538 : (Jvm.Cond.methodLink "SignatoryLaw" (47 : Nat) ({ cls := "Signatory", name := "source", desc := "(I)I" } : Jvm.MethodName)) ∈ lw_tbl := lw_m3 (List.mem_of_getElem? (i := 58) rfl)
theorem k_539 : (Jvm.Cond.instanceMethod ({ cls := "Signatory", name := "source", desc := "(I)I" } : Jvm.MethodName)) ∈ lw_tbl := lw_m3 (List.mem_of_getElem? (i := 59) rfl)
theorem k_540 : (Jvm.Cond.selects "Signatory" ({ cls := "Signatory", name := "source", desc := "(I)I" } : Jvm.MethodName) ({ cls := "Signatory", name := "source", desc := "(I)I" } : Jvm.MethodName)) ∈ lw_tbl := lw_m3 (List.mem_of_getElem? (i := 60) rfl)
theorem k_541 : (Jvm.Cond.code ({ cls := "Signatory", name := "source", desc := "(I)I" } : Jvm.MethodName) prog_1_method_10_code (3 : Nat) (Option.some Jvm.ClassFile.FieldType.int)) ∈ lw_tbl := lw_m3 (List.mem_of_getElem? (i := 61) rfl)
theorem k_542 : (Jvm.Cond.methodLink "SignatoryLaw" (172 : Nat) ({ cls := "SignatoryLaw", name := "limit", desc := "(LSignatory;I[J)I" } : Jvm.MethodName)) ∈ lw_tbl := lw_m3 (List.mem_of_getElem? (i := 62) rfl)
theorem k_543 : (Jvm.Cond.static ({ cls := "SignatoryLaw", name := "limit", desc := "(LSignatory;I[J)I" } : Jvm.MethodName)) ∈ lw_tbl := lw_m3 (List.mem_of_getElem? (i := 63) rfl)
theorem k_544 : (Jvm.Cond.codeWith ({ cls := "SignatoryLaw", name := "limit", desc := "(LSignatory;I[J)I" } : Jvm.MethodName) method_12_code (4 : Nat) (Option.some Jvm.ClassFile.FieldType.int) [((0 : Nat), (9 : Nat), (12 : Nat), (19 : Nat))]) ∈ lw_tbl := lw_m3 (List.mem_of_getElem? (i := 64) rfl)
theorem k_545 : (Jvm.Cond.methodLink "SignatoryLaw" (50 : Nat) ({ cls := "Signatory", name := "limit", desc := "(I)I" } : Jvm.MethodName)) ∈ lw_tbl := lw_m3 (List.mem_of_getElem? (i := 65) rfl)
theorem k_546 : (Jvm.Cond.instanceMethod ({ cls := "Signatory", name := "limit", desc := "(I)I" } : Jvm.MethodName)) ∈ lw_tbl := lw_m3 (List.mem_of_getElem? (i := 66) rfl)
theorem k_547 : (Jvm.Cond.selects "Signatory" ({ cls := "Signatory", name := "limit", desc := "(I)I" } : Jvm.MethodName) ({ cls := "Signatory", name := "limit", desc := "(I)I" } : Jvm.MethodName)) ∈ lw_tbl := lw_m3 (List.mem_of_getElem? (i := 67) rfl)
theorem k_548 : (Jvm.Cond.code ({ cls := "Signatory", name := "limit", desc := "(I)I" } : Jvm.MethodName) prog_1_method_11_code (2 : Nat) (Option.some Jvm.ClassFile.FieldType.int)) ∈ lw_tbl := lw_m3 (List.mem_of_getElem? (i := 68) rfl)
theorem k_549 : (Jvm.Cond.methodLink "SignatoryLaw" (175 : Nat) ({ cls := "SignatoryLaw", name := "fault", desc := "(LSignatory;II[J)I" } : Jvm.MethodName)) ∈ lw_tbl := lw_m3 (List.mem_of_getElem? (i := 69) rfl)
theorem k_550 : (Jvm.Cond.static ({ cls := "SignatoryLaw", name := "fault", desc := "(LSignatory;II[J)I" } : Jvm.MethodName)) ∈ lw_tbl := lw_m3 (List.mem_of_getElem? (i := 70) rfl)
theorem k_551 : (Jvm.Cond.codeWith ({ cls := "SignatoryLaw", name := "fault", desc := "(LSignatory;II[J)I" } : Jvm.MethodName) method_13_code (5 : Nat) (Option.some Jvm.ClassFile.FieldType.int) [((0 : Nat), (10 : Nat), (13 : Nat), (19 : Nat)), ((0 : Nat), (10 : Nat), (17 : Nat), (21 : Nat))]) ∈ lw_tbl := lw_m3 (List.mem_of_getElem? (i := 71) rfl)
theorem k_552 : (Jvm.Cond.methodLink "SignatoryLaw" (53 : Nat) ({ cls := "Signatory", name := "fault", desc := "(II)C" } : Jvm.MethodName)) ∈ lw_tbl := lw_m3 (List.mem_of_getElem? (i := 72) rfl)
theorem k_553 : (Jvm.Cond.instanceMethod ({ cls := "Signatory", name := "fault", desc := "(II)C" } : Jvm.MethodName)) ∈ lw_tbl := lw_m3 (List.mem_of_getElem? (i := 73) rfl)
theorem k_554 : (Jvm.Cond.selects "Signatory" ({ cls := "Signatory", name := "fault", desc := "(II)C" } : Jvm.MethodName) ({ cls := "Signatory", name := "fault", desc := "(II)C" } : Jvm.MethodName)) ∈ lw_tbl := lw_m3 (List.mem_of_getElem? (i := 74) rfl)
theorem k_555 : (Jvm.Cond.code ({ cls := "Signatory", name := "fault", desc := "(II)C" } : Jvm.MethodName) prog_1_method_12_code (4 : Nat) (Option.some Jvm.ClassFile.FieldType.char)) ∈ lw_tbl := lw_m3 (List.mem_of_getElem? (i := 75) rfl)
theorem k_556 : (Jvm.Cond.methodLink "Signatory" (149 : Nat) ({ cls := "Signatory", name := "requireSum", desc := "(I)V" } : Jvm.MethodName)) ∈ lw_tbl := lw_m3 (List.mem_of_getElem? (i := 76) rfl)
theorem k_557 : (Jvm.Cond.static ({ cls := "Signatory", name := "requireSum", desc := "(I)V" } : Jvm.MethodName)) ∈ lw_tbl := lw_m3 (List.mem_of_getElem? (i := 77) rfl)
theorem k_558 : (Jvm.Cond.code ({ cls := "Signatory", name := "requireSum", desc := "(I)V" } : Jvm.MethodName) prog_1_method_43_code (1 : Nat) (Option.none : Option Jvm.ClassFile.FieldType)) ∈ lw_tbl := lw_m3 (List.mem_of_getElem? (i := 78) rfl)
theorem k_559 : (Jvm.Cond.stringRef "Signatory" (301 : Nat) "the sum is not between 1 and 99999") ∈ lw_tbl := lw_m3 (List.mem_of_getElem? (i := 79) rfl)
theorem k_560 : (Jvm.Cond.methodLink "Signatory" (152 : Nat) ({ cls := "Signatory$Moment", name := "faultOf", desc := "(LSignatory$Power;I)C" } : Jvm.MethodName)) ∈ lw_tbl := lw_m3 (List.mem_of_getElem? (i := 80) rfl)
theorem k_561 : (Jvm.Cond.instanceMethod ({ cls := "Signatory$Moment", name := "faultOf", desc := "(LSignatory$Power;I)C" } : Jvm.MethodName)) ∈ lw_tbl := lw_m3 (List.mem_of_getElem? (i := 81) rfl)
theorem k_562 : (Jvm.Cond.selects "Signatory$Moment" ({ cls := "Signatory$Moment", name := "faultOf", desc := "(LSignatory$Power;I)C" } : Jvm.MethodName) ({ cls := "Signatory$Moment", name := "faultOf", desc := "(LSignatory$Power;I)C" } : Jvm.MethodName)) ∈ lw_tbl := lw_m3 (List.mem_of_getElem? (i := 82) rfl)
theorem k_563 : (Jvm.Cond.code ({ cls := "Signatory$Moment", name := "faultOf", desc := "(LSignatory$Power;I)C" } : Jvm.MethodName) prog_3_method_10_code (6 : Nat) (Option.some Jvm.ClassFile.FieldType.char)) ∈ lw_tbl := lw_m3 (List.mem_of_getElem? (i := 83) rfl)
theorem k_564 : (Jvm.Cond.methodLink "Signatory$Moment" (80 : Nat) ({ cls := "Signatory$Moment", name := "ownFault", desc := "(LSignatory$Power;I)C" } : Jvm.MethodName)) ∈ lw_tbl := lw_m3 (List.mem_of_getElem? (i := 84) rfl)
theorem k_565 : (Jvm.Cond.privateMethod ({ cls := "Signatory$Moment", name := "ownFault", desc := "(LSignatory$Power;I)C" } : Jvm.MethodName)) ∈ lw_tbl := lw_m3 (List.mem_of_getElem? (i := 85) rfl)
theorem k_566 : (Jvm.Cond.instanceMethod ({ cls := "Signatory$Moment", name := "ownFault", desc := "(LSignatory$Power;I)C" } : Jvm.MethodName)) ∈ lw_tbl := lw_m3 (List.mem_of_getElem? (i := 86) rfl)
theorem k_567 : (Jvm.Cond.code ({ cls := "Signatory$Moment", name := "ownFault", desc := "(LSignatory$Power;I)C" } : Jvm.MethodName) prog_3_method_9_code (3 : Nat) (Option.some Jvm.ClassFile.FieldType.char)) ∈ lw_tbl := lw_m3 (List.mem_of_getElem? (i := 87) rfl)
theorem k_568 : (Jvm.Cond.methodLinkNest "Signatory$Moment" (68 : Nat) ({ cls := "Signatory", name := "isBetween", desc := "(III)Z" } : Jvm.MethodName) "Signatory") ∈ lw_tbl := lw_m3 (List.mem_of_getElem? (i := 88) rfl)
theorem k_569 : (Jvm.Cond.methodLink "Signatory$Moment" (72 : Nat) ({ cls := "Signatory$Moment", name := "isRevoked", desc := "(LSignatory$Power;)Z" } : Jvm.MethodName)) ∈ lw_tbl := lw_m3 (List.mem_of_getElem? (i := 89) rfl)
theorem k_570 : (Jvm.Cond.methodLink "Signatory$Moment" (76 : Nat) ({ cls := "Signatory$Moment", name := "limitOf", desc := "(LSignatory$Power;)I" } : Jvm.MethodName)) ∈ lw_tbl := lw_m3 (List.mem_of_getElem? (i := 90) rfl)
theorem k_571 : (Jvm.Cond.methodLink "SignatoryLaw" (178 : Nat) ({ cls := "SignatoryLaw", name := "faultDepth", desc := "(LSignatory;II[J)I" } : Jvm.MethodName)) ∈ lw_tbl := lw_m3 (List.mem_of_getElem? (i := 91) rfl)
theorem k_572 : (Jvm.Cond.static ({ cls := "SignatoryLaw", name := "faultDepth", desc := "(LSignatory;II[J)I" } : Jvm.MethodName)) ∈ lw_tbl := lw_m3 (List.mem_of_getElem? (i := 92) rfl)
theorem k_573 : (Jvm.Cond.codeWith ({ cls := "SignatoryLaw", name := "faultDepth", desc := "(LSignatory;II[J)I" } : Jvm.MethodName) method_14_code (5 : Nat) (Option.some Jvm.ClassFile.FieldType.int) [((0 : Nat), (10 : Nat), (13 : Nat), (19 : Nat)), ((0 : Nat), (10 : Nat), (17 : Nat), (21 : Nat)), ((0 : Nat), (10 : Nat), (21 : Nat), (60 : Nat))]) ∈ lw_tbl := lw_m3 (List.mem_of_getElem? (i := 93) rfl)
theorem k_574 : (Jvm.Cond.classLink "SignatoryLaw" (60 : Nat) "java/util/NoSuchElementException") ∈ lw_tbl := lw_m3 (List.mem_of_getElem? (i := 94) rfl)
theorem k_575 : (Jvm.Cond.methodLink "SignatoryLaw" (57 : Nat) ({ cls := "Signatory", name := "faultDepth", desc := "(II)I" } : Jvm.MethodName)) ∈ lw_tbl := lw_m3 (List.mem_of_getElem? (i := 95) rfl)
theorem k_576 : (Jvm.Cond.instanceMethod ({ cls := "Signatory", name := "faultDepth", desc := "(II)I" } : Jvm.MethodName)) ∈ lw_tbl := lw_m3 (List.mem_of_getElem? (i := 96) rfl)
theorem k_577 : (Jvm.Cond.selects "Signatory" ({ cls := "Signatory", name := "faultDepth", desc := "(II)I" } : Jvm.MethodName) ({ cls := "Signatory", name := "faultDepth", desc := "(II)I" } : Jvm.MethodName)) ∈ lw_tbl := lw_m3 (List.mem_of_getElem? (i := 97) rfl)
theorem k_578 : (Jvm.Cond.code ({ cls := "Signatory", name := "faultDepth", desc := "(II)I" } : Jvm.MethodName) prog_1_method_13_code (5 : Nat) (Option.some Jvm.ClassFile.FieldType.int)) ∈ lw_tbl := lw_m3 (List.mem_of_getElem? (i := 98) rfl)
theorem k_579 : (Jvm.Cond.methodLink "Signatory" (156 : Nat) ({ cls := "Signatory$Moment", name := "stepsToFault", desc := "(LSignatory$Power;I)I" } : Jvm.MethodName)) ∈ lw_tbl := lw_m3 (List.mem_of_getElem? (i := 99) rfl)
theorem k_580 : (Jvm.Cond.instanceMethod ({ cls := "Signatory$Moment", name := "stepsToFault", desc := "(LSignatory$Power;I)I" } : Jvm.MethodName)) ∈ lw_tbl := lw_m3 (List.mem_of_getElem? (i := 100) rfl)
theorem k_581 : (Jvm.Cond.selects "Signatory$Moment" ({ cls := "Signatory$Moment", name := "stepsToFault", desc := "(LSignatory$Power;I)I" } : Jvm.MethodName) ({ cls := "Signatory$Moment", name := "stepsToFault", desc := "(LSignatory$Power;I)I" } : Jvm.MethodName)) ∈ lw_tbl := lw_m3 (List.mem_of_getElem? (i := 101) rfl)
theorem k_582 : (Jvm.Cond.code ({ cls := "Signatory$Moment", name := "stepsToFault", desc := "(LSignatory$Power;I)I" } : Jvm.MethodName) prog_3_method_11_code (6 : Nat) (Option.some Jvm.ClassFile.FieldType.int)) ∈ lw_tbl := lw_m3 (List.mem_of_getElem? (i := 102) rfl)
theorem k_583 : (Jvm.Cond.classLink "Signatory" (159 : Nat) "java/util/NoSuchElementException") ∈ lw_tbl := lw_m3 (List.mem_of_getElem? (i := 103) rfl)
theorem k_584 : (Jvm.Cond.instantiable "java/util/NoSuchElementException" (6 : Nat)) ∈ lw_tbl := lw_m3 (List.mem_of_getElem? (i := 104) rfl)
theorem k_585 : (Jvm.Cond.castable "java/util/NoSuchElementException" "java/util/NoSuchElementException") ∈ lw_tbl := lw_m3 (List.mem_of_getElem? (i := 105) rfl)
theorem k_586 : (Jvm.Cond.selects "java/util/NoSuchElementException" ({ cls := "java/lang/Throwable", name := "fillInStackTrace", desc := "(I)Ljava/lang/Throwable;" } : Jvm.MethodName) ({ cls := "java/lang/Throwable", name := "fillInStackTrace", desc := "(I)Ljava/lang/Throwable;" } : Jvm.MethodName)) ∈ lw_tbl := lw_m3 (List.mem_of_getElem? (i := 106) rfl)
theorem k_587 : (Jvm.Cond.lays "java/util/NoSuchElementException" "java/lang/Throwable" "cause" "Ljava/lang/Throwable;") ∈ lw_tbl := lw_m3 (List.mem_of_getElem? (i := 107) rfl)
theorem k_588 : (Jvm.Cond.lays "java/util/NoSuchElementException" "java/lang/Throwable" "stackTrace" "[Ljava/lang/StackTraceElement;") ∈ lw_tbl := lw_m3 (List.mem_of_getElem? (i := 108) rfl)
theorem k_589 : (Jvm.Cond.lays "java/util/NoSuchElementException" "java/lang/Throwable" "suppressedExceptions" "Ljava/util/List;") ∈ lw_tbl := lw_m3 (List.mem_of_getElem? (i := 109) rfl)
theorem k_590 : (Jvm.Cond.lays "java/util/NoSuchElementException" "java/lang/Throwable" "detailMessage" "Ljava/lang/String;") ∈ lw_tbl := lw_m3 (List.mem_of_getElem? (i := 110) rfl)
theorem k_591 : (Jvm.Cond.lays "java/util/NoSuchElementException" "java/lang/Throwable" "backtrace" "Ljava/lang/Object;") ∈ lw_tbl := lw_m3 (List.mem_of_getElem? (i := 111) rfl)
theorem k_592 : (Jvm.Cond.stringRef "Signatory" (161 : Nat) "the power has no fault") ∈ lw_tbl := lw_m3 (List.mem_of_getElem? (i := 112) rfl)
theorem k_593 : (Jvm.Cond.methodLink "Signatory" (163 : Nat) ({ cls := "java/util/NoSuchElementException", name := "<init>", desc := "(Ljava/lang/String;)V" } : Jvm.MethodName)) ∈ lw_tbl := lw_m3 (List.mem_of_getElem? (i := 113) rfl)
theorem k_594 : (Jvm.Cond.instanceMethod ({ cls := "java/util/NoSuchElementException", name := "<init>", desc := "(Ljava/lang/String;)V" } : Jvm.MethodName)) ∈ lw_tbl := lw_m3 (List.mem_of_getElem? (i := 114) rfl)
theorem k_595 : (Jvm.Cond.code ({ cls := "java/util/NoSuchElementException", name := "<init>", desc := "(Ljava/lang/String;)V" } : Jvm.MethodName) prog_34_method_4_code (2 : Nat) (Option.none : Option Jvm.ClassFile.FieldType)) ∈ lw_tbl := lw_m3 (List.mem_of_getElem? (i := 115) rfl)
theorem k_596 : (Jvm.Cond.methodLink "java/util/NoSuchElementException" (13 : Nat) ({ cls := "java/lang/RuntimeException", name := "<init>", desc := "(Ljava/lang/String;)V" } : Jvm.MethodName)) ∈ lw_tbl := lw_m3 (List.mem_of_getElem? (i := 116) rfl)
theorem k_597 : (Jvm.Cond.lays "java/util/NoSuchElementException" "java/lang/Throwable" "depth" "I") ∈ lw_tbl := lw_m3 (List.mem_of_getElem? (i := 117) rfl)
theorem k_598 : (Jvm.Cond.superclass "java/util/NoSuchElementException" "java/lang/RuntimeException") ∈ lw_tbl := lw_m3 (List.mem_of_getElem? (i := 118) rfl)
theorem k_599 : (Jvm.Cond.methodLink "SignatoryLaw" (181 : Nat) ({ cls := "SignatoryLaw", name := "reach", desc := "(LSignatory;I[J)I" } : Jvm.MethodName)) ∈ lw_tbl := lw_m3 (List.mem_of_getElem? (i := 119) rfl)
theorem k_600 : (Jvm.Cond.static ({ cls := "SignatoryLaw", name := "reach", desc := "(LSignatory;I[J)I" } : Jvm.MethodName)) ∈ lw_tbl := lw_m3 (List.mem_of_getElem? (i := 120) rfl)
theorem k_601 : (Jvm.Cond.codeWith ({ cls := "SignatoryLaw", name := "reach", desc := "(LSignatory;I[J)I" } : Jvm.MethodName) method_15_code (4 : Nat) (Option.some Jvm.ClassFile.FieldType.int) [((0 : Nat), (9 : Nat), (12 : Nat), (19 : Nat))]) ∈ lw_tbl := lw_m3 (List.mem_of_getElem? (i := 121) rfl)
theorem k_602 : (Jvm.Cond.methodLink "SignatoryLaw" (62 : Nat) ({ cls := "Signatory", name := "reach", desc := "(I)I" } : Jvm.MethodName)) ∈ lw_tbl := lw_m3 (List.mem_of_getElem? (i := 122) rfl)
theorem k_603 : (Jvm.Cond.instanceMethod ({ cls := "Signatory", name := "reach", desc := "(I)I" } : Jvm.MethodName)) ∈ lw_tbl := lw_m3 (List.mem_of_getElem? (i := 123) rfl)
theorem k_604 : (Jvm.Cond.selects "Signatory" ({ cls := "Signatory", name := "reach", desc := "(I)I" } : Jvm.MethodName) ({ cls := "Signatory", name := "reach", desc := "(I)I" } : Jvm.MethodName)) ∈ lw_tbl := lw_m3 (List.mem_of_getElem? (i := 124) rfl)
theorem k_605 : (Jvm.Cond.code ({ cls := "Signatory", name := "reach", desc := "(I)I" } : Jvm.MethodName) prog_1_method_14_code (2 : Nat) (Option.some Jvm.ClassFile.FieldType.int)) ∈ lw_tbl := lw_m3 (List.mem_of_getElem? (i := 125) rfl)
theorem k_606 : (Jvm.Cond.methodLink "Signatory" (164 : Nat) ({ cls := "Signatory$Moment", name := "reachOf", desc := "(LSignatory$Power;)I" } : Jvm.MethodName)) ∈ lw_tbl := lw_m3 (List.mem_of_getElem? (i := 126) rfl)
theorem k_607 : (Jvm.Cond.instanceMethod ({ cls := "Signatory$Moment", name := "reachOf", desc := "(LSignatory$Power;)I" } : Jvm.MethodName)) ∈ lw_tbl := lw_m3 (List.mem_of_getElem? (i := 127) rfl)
theorem k_608 : (Jvm.Cond.selects "Signatory$Moment" ({ cls := "Signatory$Moment", name := "reachOf", desc := "(LSignatory$Power;)I" } : Jvm.MethodName) ({ cls := "Signatory$Moment", name := "reachOf", desc := "(LSignatory$Power;)I" } : Jvm.MethodName)) ∈ lw_tbl := lw_m3 (List.mem_of_getElem? (i := 128) rfl)
theorem k_609 : (Jvm.Cond.code ({ cls := "Signatory$Moment", name := "reachOf", desc := "(LSignatory$Power;)I" } : Jvm.MethodName) prog_3_method_12_code (4 : Nat) (Option.some Jvm.ClassFile.FieldType.int)) ∈ lw_tbl := lw_m3 (List.mem_of_getElem? (i := 129) rfl)
theorem k_610 : (Jvm.Cond.methodLink "Signatory$Moment" (88 : Nat) ({ cls := "Signatory$Moment", name := "faultOf", desc := "(LSignatory$Power;I)C" } : Jvm.MethodName)) ∈ lw_tbl := lw_m3 (List.mem_of_getElem? (i := 130) rfl)
theorem k_611 : (Jvm.Cond.methodLink "Signatory$Moment" (91 : Nat) ({ cls := "java/lang/Math", name := "min", desc := "(II)I" } : Jvm.MethodName)) ∈ lw_tbl := lw_m3 (List.mem_of_getElem? (i := 131) rfl)
theorem k_612 : (Jvm.Cond.methodLink "SignatoryLaw" (184 : Nat) ({ cls := "SignatoryLaw", name := "canSign", desc := "(LSignatory;III[J)I" } : Jvm.MethodName)) ∈ lw_tbl := lw_m3 (List.mem_of_getElem? (i := 132) rfl)
theorem k_613 : (Jvm.Cond.static ({ cls := "SignatoryLaw", name := "canSign", desc := "(LSignatory;III[J)I" } : Jvm.MethodName)) ∈ lw_tbl := lw_m3 (List.mem_of_getElem? (i := 133) rfl)
theorem k_614 : (Jvm.Cond.codeWith ({ cls := "SignatoryLaw", name := "canSign", desc := "(LSignatory;III[J)I" } : Jvm.MethodName) method_16_code (6 : Nat) (Option.some Jvm.ClassFile.FieldType.int) [((0 : Nat), (19 : Nat), (22 : Nat), (19 : Nat)), ((0 : Nat), (19 : Nat), (26 : Nat), (21 : Nat))]) ∈ lw_tbl := lw_m3 (List.mem_of_getElem? (i := 134) rfl)
theorem k_615 : (Jvm.Cond.methodLink "SignatoryLaw" (65 : Nat) ({ cls := "Signatory", name := "canSign", desc := "(III)Z" } : Jvm.MethodName)) ∈ lw_tbl := lw_m3 (List.mem_of_getElem? (i := 135) rfl)
theorem k_616 : (Jvm.Cond.instanceMethod ({ cls := "Signatory", name := "canSign", desc := "(III)Z" } : Jvm.MethodName)) ∈ lw_tbl := lw_m3 (List.mem_of_getElem? (i := 136) rfl)
theorem k_617 : (Jvm.Cond.selects "Signatory" ({ cls := "Signatory", name := "canSign", desc := "(III)Z" } : Jvm.MethodName) ({ cls := "Signatory", name := "canSign", desc := "(III)Z" } : Jvm.MethodName)) ∈ lw_tbl := lw_m3 (List.mem_of_getElem? (i := 137) rfl)
theorem k_618 : (Jvm.Cond.code ({ cls := "Signatory", name := "canSign", desc := "(III)Z" } : Jvm.MethodName) prog_1_method_15_code (4 : Nat) (Option.some Jvm.ClassFile.FieldType.boolean)) ∈ lw_tbl := lw_m3 (List.mem_of_getElem? (i := 138) rfl)
theorem k_619 : (Jvm.Cond.methodLink "Signatory" (167 : Nat) ({ cls := "Signatory", name := "signsAlone", desc := "(IIILSignatory$Moment;)Z" } : Jvm.MethodName)) ∈ lw_tbl := lw_m3 (List.mem_of_getElem? (i := 139) rfl)
theorem k_620 : (Jvm.Cond.privateMethod ({ cls := "Signatory", name := "signsAlone", desc := "(IIILSignatory$Moment;)Z" } : Jvm.MethodName)) ∈ lw_tbl := lw_m3 (List.mem_of_getElem? (i := 140) rfl)
theorem k_621 : (Jvm.Cond.instanceMethod ({ cls := "Signatory", name := "signsAlone", desc := "(IIILSignatory$Moment;)Z" } : Jvm.MethodName)) ∈ lw_tbl := lw_m3 (List.mem_of_getElem? (i := 141) rfl)
theorem k_622 : (Jvm.Cond.code ({ cls := "Signatory", name := "signsAlone", desc := "(IIILSignatory$Moment;)Z" } : Jvm.MethodName) prog_1_method_59_code (5 : Nat) (Option.some Jvm.ClassFile.FieldType.boolean)) ∈ lw_tbl := lw_m3 (List.mem_of_getElem? (i := 142) rfl)
theorem k_623 : (Jvm.Cond.methodLink "Signatory" (179 : Nat) ({ cls := "Signatory", name := "handsOf", desc := "(IIILSignatory$Moment;)I" } : Jvm.MethodName)) ∈ lw_tbl := lw_m3 (List.mem_of_getElem? (i := 143) rfl)
theorem k_624 : (Jvm.Cond.privateMethod ({ cls := "Signatory", name := "handsOf", desc := "(IIILSignatory$Moment;)I" } : Jvm.MethodName)) ∈ lw_tbl := lw_m3 (List.mem_of_getElem? (i := 144) rfl)
theorem k_625 : (Jvm.Cond.instanceMethod ({ cls := "Signatory", name := "handsOf", desc := "(IIILSignatory$Moment;)I" } : Jvm.MethodName)) ∈ lw_tbl := lw_m3 (List.mem_of_getElem? (i := 145) rfl)
theorem k_626 : (Jvm.Cond.code ({ cls := "Signatory", name := "handsOf", desc := "(IIILSignatory$Moment;)I" } : Jvm.MethodName) prog_1_method_58_code (8 : Nat) (Option.some Jvm.ClassFile.FieldType.int)) ∈ lw_tbl := lw_m3 (List.mem_of_getElem? (i := 146) rfl)
theorem k_627 : (Jvm.Cond.methodLink "Signatory" (341 : Nat) ({ cls := "Signatory", name := "suffice", desc := "(II)Z" } : Jvm.MethodName)) ∈ lw_tbl := lw_m3 (List.mem_of_getElem? (i := 147) rfl)
theorem k_628 : (Jvm.Cond.static ({ cls := "Signatory", name := "suffice", desc := "(II)Z" } : Jvm.MethodName)) ∈ lw_tbl := lw_m3 (List.mem_of_getElem? (i := 148) rfl)
theorem k_629 : (Jvm.Cond.code ({ cls := "Signatory", name := "suffice", desc := "(II)Z" } : Jvm.MethodName) prog_1_method_61_code (2 : Nat) (Option.some Jvm.ClassFile.FieldType.boolean)) ∈ lw_tbl := lw_m3 (List.mem_of_getElem? (i := 149) rfl)
theorem k_630 : (Jvm.Cond.methodLink "SignatoryLaw" (188 : Nat) ({ cls := "SignatoryLaw", name := "canSignTogether", desc := "(LSignatory;IIII[J)I" } : Jvm.MethodName)) ∈ lw_tbl := lw_m3 (List.mem_of_getElem? (i := 150) rfl)
theorem k_631 : (Jvm.Cond.static ({ cls := "SignatoryLaw", name := "canSignTogether", desc := "(LSignatory;IIII[J)I" } : Jvm.MethodName)) ∈ lw_tbl := lw_m3 (List.mem_of_getElem? (i := 151) rfl)
theorem k_632 : (Jvm.Cond.codeWith ({ cls := "SignatoryLaw", name := "canSignTogether", desc := "(LSignatory;IIII[J)I" } : Jvm.MethodName) method_17_code (7 : Nat) (Option.some Jvm.ClassFile.FieldType.int) [((0 : Nat), (21 : Nat), (24 : Nat), (19 : Nat)), ((0 : Nat), (21 : Nat), (28 : Nat), (21 : Nat)), ((0 : Nat), (21 : Nat), (32 : Nat), (39 : Nat))]) ∈ lw_tbl := lw_m3 (List.mem_of_getElem? (i := 152) rfl)
theorem k_633 : (Jvm.Cond.methodLink "SignatoryLaw" (69 : Nat) ({ cls := "Signatory", name := "canSignTogether", desc := "(IIII)Z" } : Jvm.MethodName)) ∈ lw_tbl := lw_m3 (List.mem_of_getElem? (i := 153) rfl)
theorem k_634 : (Jvm.Cond.instanceMethod ({ cls := "Signatory", name := "canSignTogether", desc := "(IIII)Z" } : Jvm.MethodName)) ∈ lw_tbl := lw_m3 (List.mem_of_getElem? (i := 154) rfl)
theorem k_635 : (Jvm.Cond.selects "Signatory" ({ cls := "Signatory", name := "canSignTogether", desc := "(IIII)Z" } : Jvm.MethodName) ({ cls := "Signatory", name := "canSignTogether", desc := "(IIII)Z" } : Jvm.MethodName)) ∈ lw_tbl := lw_m3 (List.mem_of_getElem? (i := 155) rfl)
theorem k_636 : (Jvm.Cond.code ({ cls := "Signatory", name := "canSignTogether", desc := "(IIII)Z" } : Jvm.MethodName) prog_1_method_16_code (5 : Nat) (Option.some Jvm.ClassFile.FieldType.boolean)) ∈ lw_tbl := lw_m3 (List.mem_of_getElem? (i := 156) rfl)
theorem k_637 : (Jvm.Cond.methodLink "Signatory" (171 : Nat) ({ cls := "Signatory", name := "requireTwo", desc := "(II)V" } : Jvm.MethodName)) ∈ lw_tbl := lw_m3 (List.mem_of_getElem? (i := 157) rfl)
theorem k_638 : (Jvm.Cond.static ({ cls := "Signatory", name := "requireTwo", desc := "(II)V" } : Jvm.MethodName)) ∈ lw_tbl := lw_m3 (List.mem_of_getElem? (i := 158) rfl)
theorem k_639 : (Jvm.Cond.code ({ cls := "Signatory", name := "requireTwo", desc := "(II)V" } : Jvm.MethodName) prog_1_method_47_code (2 : Nat) (Option.none : Option Jvm.ClassFile.FieldType)) ∈ lw_tbl := lw_m3 (List.mem_of_getElem? (i := 159) rfl)
theorem k_640 : (Jvm.Cond.stringRef "Signatory" (313 : Nat) "both persons are the same") ∈ lw_tbl := lw_m3 (List.mem_of_getElem? (i := 160) rfl)
theorem k_641 : (Jvm.Cond.methodLink "Signatory" (175 : Nat) ({ cls := "Signatory", name := "signTwo", desc := "(IIII)Z" } : Jvm.MethodName)) ∈ lw_tbl := lw_m3 (List.mem_of_getElem? (i := 161) rfl)
theorem k_642 : (Jvm.Cond.privateMethod ({ cls := "Signatory", name := "signTwo", desc := "(IIII)Z" } : Jvm.MethodName)) ∈ lw_tbl := lw_m3 (List.mem_of_getElem? (i := 162) rfl)
theorem k_643 : (Jvm.Cond.instanceMethod ({ cls := "Signatory", name := "signTwo", desc := "(IIII)Z" } : Jvm.MethodName)) ∈ lw_tbl := lw_m3 (List.mem_of_getElem? (i := 163) rfl)
theorem k_644 : (Jvm.Cond.code ({ cls := "Signatory", name := "signTwo", desc := "(IIII)Z" } : Jvm.MethodName) prog_1_method_60_code (5 : Nat) (Option.some Jvm.ClassFile.FieldType.boolean)) ∈ lw_tbl := lw_m3 (List.mem_of_getElem? (i := 164) rfl)
theorem k_645 : (Jvm.Cond.methodLink "SignatoryLaw" (192 : Nat) ({ cls := "SignatoryLaw", name := "signers", desc := "(LSignatory;II[J)I" } : Jvm.MethodName)) ∈ lw_tbl := lw_m3 (List.mem_of_getElem? (i := 165) rfl)
theorem k_646 : (Jvm.Cond.static ({ cls := "SignatoryLaw", name := "signers", desc := "(LSignatory;II[J)I" } : Jvm.MethodName)) ∈ lw_tbl := lw_m3 (List.mem_of_getElem? (i := 166) rfl)
theorem k_647 : (Jvm.Cond.codeWith ({ cls := "SignatoryLaw", name := "signers", desc := "(LSignatory;II[J)I" } : Jvm.MethodName) method_18_code (5 : Nat) (Option.some Jvm.ClassFile.FieldType.int) [((0 : Nat), (10 : Nat), (13 : Nat), (21 : Nat))]) ∈ lw_tbl := lw_m3 (List.mem_of_getElem? (i := 167) rfl)
theorem k_648 : (Jvm.Cond.methodLink "SignatoryLaw" (73 : Nat) ({ cls := "Signatory", name := "signers", desc := "(II)I" } : Jvm.MethodName)) ∈ lw_tbl := lw_m3 (List.mem_of_getElem? (i := 168) rfl)
theorem k_649 : (Jvm.Cond.instanceMethod ({ cls := "Signatory", name := "signers", desc := "(II)I" } : Jvm.MethodName)) ∈ lw_tbl := lw_m3 (List.mem_of_getElem? (i := 169) rfl)
theorem k_650 : (Jvm.Cond.selects "Signatory" ({ cls := "Signatory", name := "signers", desc := "(II)I" } : Jvm.MethodName) ({ cls := "Signatory", name := "signers", desc := "(II)I" } : Jvm.MethodName)) ∈ lw_tbl := lw_m3 (List.mem_of_getElem? (i := 170) rfl)
theorem k_651 : (Jvm.Cond.code ({ cls := "Signatory", name := "signers", desc := "(II)I" } : Jvm.MethodName) prog_1_method_17_code (5 : Nat) (Option.some Jvm.ClassFile.FieldType.int)) ∈ lw_tbl := lw_m3 (List.mem_of_getElem? (i := 171) rfl)
theorem k_652 : (Jvm.Cond.methodLink "SignatoryLaw" (195 : Nat) ({ cls := "SignatoryLaw", name := "pairs", desc := "(LSignatory;II[J)I" } : Jvm.MethodName)) ∈ lw_tbl := lw_m3 (List.mem_of_getElem? (i := 172) rfl)
theorem k_653 : (Jvm.Cond.static ({ cls := "SignatoryLaw", name := "pairs", desc := "(LSignatory;II[J)I" } : Jvm.MethodName)) ∈ lw_tbl := lw_m3 (List.mem_of_getElem? (i := 173) rfl)
theorem k_654 : (Jvm.Cond.codeWith ({ cls := "SignatoryLaw", name := "pairs", desc := "(LSignatory;II[J)I" } : Jvm.MethodName) method_19_code (5 : Nat) (Option.some Jvm.ClassFile.FieldType.int) [((0 : Nat), (10 : Nat), (13 : Nat), (21 : Nat))]) ∈ lw_tbl := lw_m3 (List.mem_of_getElem? (i := 174) rfl)
theorem k_655 : (Jvm.Cond.methodLink "SignatoryLaw" (76 : Nat) ({ cls := "Signatory", name := "pairs", desc := "(II)I" } : Jvm.MethodName)) ∈ lw_tbl := lw_m3 (List.mem_of_getElem? (i := 175) rfl)
theorem k_656 : (Jvm.Cond.instanceMethod ({ cls := "Signatory", name := "pairs", desc := "(II)I" } : Jvm.MethodName)) ∈ lw_tbl := lw_m3 (List.mem_of_getElem? (i := 176) rfl)
theorem k_657 : (Jvm.Cond.selects "Signatory" ({ cls := "Signatory", name := "pairs", desc := "(II)I" } : Jvm.MethodName) ({ cls := "Signatory", name := "pairs", desc := "(II)I" } : Jvm.MethodName)) ∈ lw_tbl := lw_m3 (List.mem_of_getElem? (i := 177) rfl)
theorem k_658 : (Jvm.Cond.code ({ cls := "Signatory", name := "pairs", desc := "(II)I" } : Jvm.MethodName) prog_1_method_18_code (9 : Nat) (Option.some Jvm.ClassFile.FieldType.int)) ∈ lw_tbl := lw_m3 (List.mem_of_getElem? (i := 178) rfl)
theorem k_659 : (Jvm.Cond.methodLink "Signatory" (183 : Nat) ({ cls := "Signatory", name := "pairsAmong", desc := "(I)I" } : Jvm.MethodName)) ∈ lw_tbl := lw_m3 (List.mem_of_getElem? (i := 179) rfl)
theorem k_660 : (Jvm.Cond.static ({ cls := "Signatory", name := "pairsAmong", desc := "(I)I" } : Jvm.MethodName)) ∈ lw_tbl := lw_m3 (List.mem_of_getElem? (i := 180) rfl)
theorem k_661 : (Jvm.Cond.code ({ cls := "Signatory", name := "pairsAmong", desc := "(I)I" } : Jvm.MethodName) prog_1_method_62_code (1 : Nat) (Option.some Jvm.ClassFile.FieldType.int)) ∈ lw_tbl := lw_m3 (List.mem_of_getElem? (i := 181) rfl)
theorem k_662 : (Jvm.Cond.methodLink "SignatoryLaw" (198 : Nat) ({ cls := "SignatoryLaw", name := "pairsByTrying", desc := "(LSignatory;II[J)I" } : Jvm.MethodName)) ∈ lw_tbl := lw_m3 (List.mem_of_getElem? (i := 182) rfl)
theorem k_663 : (Jvm.Cond.static ({ cls := "SignatoryLaw", name := "pairsByTrying", desc := "(LSignatory;II[J)I" } : Jvm.MethodName)) ∈ lw_tbl := lw_m3 (List.mem_of_getElem? (i := 183) rfl)
theorem k_664 : (Jvm.Cond.codeWith ({ cls := "SignatoryLaw", name := "pairsByTrying", desc := "(LSignatory;II[J)I" } : Jvm.MethodName) method_20_code (5 : Nat) (Option.some Jvm.ClassFile.FieldType.int) [((0 : Nat), (10 : Nat), (13 : Nat), (21 : Nat))]) ∈ lw_tbl := lw_m3 (List.mem_of_getElem? (i := 184) rfl)
theorem k_665 : (Jvm.Cond.methodLink "SignatoryLaw" (79 : Nat) ({ cls := "Signatory", name := "pairsByTrying", desc := "(II)I" } : Jvm.MethodName)) ∈ lw_tbl := lw_m3 (List.mem_of_getElem? (i := 185) rfl)
theorem k_666 : (Jvm.Cond.instanceMethod ({ cls := "Signatory", name := "pairsByTrying", desc := "(II)I" } : Jvm.MethodName)) ∈ lw_tbl := lw_m3 (List.mem_of_getElem? (i := 186) rfl)
theorem k_667 : (Jvm.Cond.selects "Signatory" ({ cls := "Signatory", name := "pairsByTrying", desc := "(II)I" } : Jvm.MethodName) ({ cls := "Signatory", name := "pairsByTrying", desc := "(II)I" } : Jvm.MethodName)) ∈ lw_tbl := lw_m3 (List.mem_of_getElem? (i := 187) rfl)
theorem k_668 : (Jvm.Cond.code ({ cls := "Signatory", name := "pairsByTrying", desc := "(II)I" } : Jvm.MethodName) prog_1_method_19_code (6 : Nat) (Option.some Jvm.ClassFile.FieldType.int)) ∈ lw_tbl := lw_m3 (List.mem_of_getElem? (i := 188) rfl)
theorem k_669 : (Jvm.Cond.methodLink "SignatoryLaw" (201 : Nat) ({ cls := "SignatoryLaw", name := "sign", desc := "(LSignatory;IIII[J)I" } : Jvm.MethodName)) ∈ lw_tbl := lw_m3 (List.mem_of_getElem? (i := 189) rfl)
theorem k_670 : (Jvm.Cond.static ({ cls := "SignatoryLaw", name := "sign", desc := "(LSignatory;IIII[J)I" } : Jvm.MethodName)) ∈ lw_tbl := lw_m3 (List.mem_of_getElem? (i := 190) rfl)
theorem k_671 : (Jvm.Cond.codeWith ({ cls := "SignatoryLaw", name := "sign", desc := "(LSignatory;IIII[J)I" } : Jvm.MethodName) method_21_code (7 : Nat) (Option.some Jvm.ClassFile.FieldType.int) [((0 : Nat), (14 : Nat), (17 : Nat), (19 : Nat)), ((0 : Nat), (14 : Nat), (21 : Nat), (21 : Nat)), ((0 : Nat), (14 : Nat), (25 : Nat), (13 : Nat))]) ∈ lw_tbl := lw_m3 (List.mem_of_getElem? (i := 191) rfl)
theorem k_672 : (Jvm.Cond.methodLink "SignatoryLaw" (82 : Nat) ({ cls := "Signatory", name := "sign", desc := "(IIII)I" } : Jvm.MethodName)) ∈ lw_tbl := lw_m3 (List.mem_of_getElem? (i := 192) rfl)
theorem k_673 : (Jvm.Cond.instanceMethod ({ cls := "Signatory", name := "sign", desc := "(IIII)I" } : Jvm.MethodName)) ∈ lw_tbl := lw_m3 (List.mem_of_getElem? (i := 193) rfl)
theorem k_674 : (Jvm.Cond.selects "Signatory" ({ cls := "Signatory", name := "sign", desc := "(IIII)I" } : Jvm.MethodName) ({ cls := "Signatory", name := "sign", desc := "(IIII)I" } : Jvm.MethodName)) ∈ lw_tbl := lw_m3 (List.mem_of_getElem? (i := 194) rfl)
theorem k_675 : (Jvm.Cond.code ({ cls := "Signatory", name := "sign", desc := "(IIII)I" } : Jvm.MethodName) prog_1_method_20_code (5 : Nat) (Option.some Jvm.ClassFile.FieldType.int)) ∈ lw_tbl := lw_m3 (List.mem_of_getElem? (i := 195) rfl)
theorem k_676 : (Jvm.Cond.methodLink "Signatory" (186 : Nat) ({ cls := "Signatory", name := "requireDealing", desc := "(III)V" } : Jvm.MethodName)) ∈ lw_tbl := lw_m3 (List.mem_of_getElem? (i := 196) rfl)
theorem k_677 : (Jvm.Cond.static ({ cls := "Signatory", name := "requireDealing", desc := "(III)V" } : Jvm.MethodName)) ∈ lw_tbl := lw_m3 (List.mem_of_getElem? (i := 197) rfl)
theorem k_678 : (Jvm.Cond.code ({ cls := "Signatory", name := "requireDealing", desc := "(III)V" } : Jvm.MethodName) prog_1_method_45_code (3 : Nat) (Option.none : Option Jvm.ClassFile.FieldType)) ∈ lw_tbl := lw_m3 (List.mem_of_getElem? (i := 198) rfl)
theorem k_679 : (Jvm.Cond.stringRef "Signatory" (307 : Nat) "no such party") ∈ lw_tbl := lw_m3 (List.mem_of_getElem? (i := 199) rfl)
theorem k_680 : (Jvm.Cond.stringRef "Signatory" (309 : Nat) "the amount is not between 1 and 9999") ∈ lw_tbl := lw_m3 (List.mem_of_getElem? (i := 200) rfl)
theorem k_681 : (Jvm.Cond.methodLink "Signatory" (189 : Nat) ({ cls := "Signatory", name := "requireRoomForDeed", desc := "()V" } : Jvm.MethodName)) ∈ lw_tbl := lw_m3 (List.mem_of_getElem? (i := 201) rfl)
theorem k_682 : (Jvm.Cond.privateMethod ({ cls := "Signatory", name := "requireRoomForDeed", desc := "()V" } : Jvm.MethodName)) ∈ lw_tbl := lw_m3 (List.mem_of_getElem? (i := 202) rfl)
theorem k_683 : (Jvm.Cond.instanceMethod ({ cls := "Signatory", name := "requireRoomForDeed", desc := "()V" } : Jvm.MethodName)) ∈ lw_tbl := lw_m3 (List.mem_of_getElem? (i := 203) rfl)
theorem k_684 : (Jvm.Cond.code ({ cls := "Signatory", name := "requireRoomForDeed", desc := "()V" } : Jvm.MethodName) prog_1_method_49_code (1 : Nat) (Option.none : Option Jvm.ClassFile.FieldType)) ∈ lw_tbl := lw_m3 (List.mem_of_getElem? (i := 204) rfl)
theorem k_685 : (Jvm.Cond.stringRef "Signatory" (317 : Nat) "there are 24 deeds") ∈ lw_tbl := lw_m3 (List.mem_of_getElem? (i := 205) rfl)
theorem k_686 : (Jvm.Cond.instantiable "Signatory$Deed" (16 : Nat)) ∈ lw_tbl := lw_m3 (List.mem_of_getElem? (i := 206) rfl)
theorem k_687 : (Jvm.Cond.methodLink "Signatory" (194 : Nat) ({ cls := "Signatory$Deed", name := "<init>", desc := "(IIIIII)V" } : Jvm.MethodName)) ∈ lw_tbl := lw_m3 (List.mem_of_getElem? (i := 207) rfl)
theorem k_688 : (Jvm.Cond.instanceMethod ({ cls := "Signatory$Deed", name := "<init>", desc := "(IIIIII)V" } : Jvm.MethodName)) ∈ lw_tbl := lw_m3 (List.mem_of_getElem? (i := 208) rfl)
theorem k_689 : (Jvm.Cond.code ({ cls := "Signatory$Deed", name := "<init>", desc := "(IIIIII)V" } : Jvm.MethodName) prog_2_method_1_code (7 : Nat) (Option.none : Option Jvm.ClassFile.FieldType)) ∈ lw_tbl := lw_m3 (List.mem_of_getElem? (i := 209) rfl)
theorem k_690 : (Jvm.Cond.methodLink "Signatory$Deed" (3 : Nat) ({ cls := "java/lang/Object", name := "<init>", desc := "()V" } : Jvm.MethodName)) ∈ lw_tbl := lw_m3 (List.mem_of_getElem? (i := 210) rfl)
theorem k_691 : (Jvm.Cond.fieldLink "Signatory$Deed" (22 : Nat) "Signatory$Deed" "number" "I") ∈ lw_tbl := lw_m3 (List.mem_of_getElem? (i := 211) rfl)
theorem k_692 : (Jvm.Cond.fieldLink "Signatory$Moment" (55 : Nat) "Signatory$Deed" "number" "I") ∈ lw_tbl := lw_m3 (List.mem_of_getElem? (i := 212) rfl)
theorem k_693 : (Jvm.Cond.fieldLink "Signatory" (347 : Nat) "Signatory$Deed" "number" "I") ∈ lw_tbl := lw_m3 (List.mem_of_getElem? (i := 213) rfl)
theorem k_694 : (Jvm.Cond.fieldLink "Signatory$Deed" (25 : Nat) "Signatory$Deed" "signer" "I") ∈ lw_tbl := lw_m3 (List.mem_of_getElem? (i := 214) rfl)
theorem k_695 : (Jvm.Cond.fieldLink "Signatory" (355 : Nat) "Signatory$Deed" "signer" "I") ∈ lw_tbl := lw_m3 (List.mem_of_getElem? (i := 215) rfl)
theorem k_696 : (Jvm.Cond.fieldLink "Signatory$Deed" (28 : Nat) "Signatory$Deed" "other" "I") ∈ lw_tbl := lw_m3 (List.mem_of_getElem? (i := 216) rfl)
theorem k_697 : (Jvm.Cond.fieldLink "Signatory" (358 : Nat) "Signatory$Deed" "other" "I") ∈ lw_tbl := lw_m3 (List.mem_of_getElem? (i := 217) rfl)
theorem k_698 : (Jvm.Cond.fieldLink "Signatory$Deed" (31 : Nat) "Signatory$Deed" "kind" "I") ∈ lw_tbl := lw_m3 (List.mem_of_getElem? (i := 218) rfl)
theorem k_699 : (Jvm.Cond.fieldLink "Signatory" (209 : Nat) "Signatory$Deed" "kind" "I") ∈ lw_tbl := lw_m3 (List.mem_of_getElem? (i := 219) rfl)
theorem k_700 : (Jvm.Cond.fieldLink "Signatory$Deed" (34 : Nat) "Signatory$Deed" "amount" "I") ∈ lw_tbl := lw_m3 (List.mem_of_getElem? (i := 220) rfl)
theorem k_701 : (Jvm.Cond.fieldLink "Signatory" (281 : Nat) "Signatory$Deed" "amount" "I") ∈ lw_tbl := lw_m3 (List.mem_of_getElem? (i := 221) rfl)
theorem k_702 : (Jvm.Cond.fieldLink "Signatory$Deed" (37 : Nat) "Signatory$Deed" "party" "I") ∈ lw_tbl := lw_m3 (List.mem_of_getElem? (i := 222) rfl)
theorem k_703 : (Jvm.Cond.fieldLink "Signatory" (348 : Nat) "Signatory$Deed" "party" "I") ∈ lw_tbl := lw_m3 (List.mem_of_getElem? (i := 223) rfl)
theorem k_704 : (Jvm.Cond.fieldLink "Signatory" (237 : Nat) "Signatory$Deed" "signedOn" "I") ∈ lw_tbl := lw_m3 (List.mem_of_getElem? (i := 224) rfl)
theorem k_705 : (Jvm.Cond.fieldLink "Signatory" (234 : Nat) "Signatory$Deed" "papersWhenSigned" "I") ∈ lw_tbl := lw_m3 (List.mem_of_getElem? (i := 225) rfl)
theorem k_706 : (Jvm.Cond.fieldLink "Signatory" (210 : Nat) "Signatory$Deed" "sum" "I") ∈ lw_tbl := lw_m3 (List.mem_of_getElem? (i := 226) rfl)
theorem k_707 : (Jvm.Cond.fieldLink "Signatory$Deed" (40 : Nat) "Signatory$Deed" "status" "C") ∈ lw_tbl := lw_m3 (List.mem_of_getElem? (i := 227) rfl)
theorem k_708 : (Jvm.Cond.fieldLink "Signatory" (215 : Nat) "Signatory$Deed" "status" "C") ∈ lw_tbl := lw_m3 (List.mem_of_getElem? (i := 228) rfl)
theorem k_709 : (Jvm.Cond.fieldLink "Signatory$Deed" (9 : Nat) "Signatory$Deed" "lack" "C") ∈ lw_tbl := lw_m3 (List.mem_of_getElem? (i := 229) rfl)
theorem k_710 : (Jvm.Cond.fieldLink "Signatory" (255 : Nat) "Signatory$Deed" "lack" "C") ∈ lw_tbl := lw_m3 (List.mem_of_getElem? (i := 230) rfl)
theorem k_711 : (Jvm.Cond.fieldLink "Signatory$Deed" (15 : Nat) "Signatory$Deed" "lackPower" "I") ∈ lw_tbl := lw_m3 (List.mem_of_getElem? (i := 231) rfl)
theorem k_712 : (Jvm.Cond.fieldLink "Signatory" (263 : Nat) "Signatory$Deed" "lackPower" "I") ∈ lw_tbl := lw_m3 (List.mem_of_getElem? (i := 232) rfl)
theorem k_713 : (Jvm.Cond.fieldLink "Signatory" (266 : Nat) "Signatory$Deed" "lackDepth" "I") ∈ lw_tbl := lw_m3 (List.mem_of_getElem? (i := 233) rfl)
theorem k_714 : (Jvm.Cond.fieldLink "Signatory$Deed" (19 : Nat) "Signatory$Deed" "ratifier" "I") ∈ lw_tbl := lw_m3 (List.mem_of_getElem? (i := 234) rfl)
theorem k_715 : (Jvm.Cond.fieldLink "Signatory" (219 : Nat) "Signatory$Deed" "ratifier" "I") ∈ lw_tbl := lw_m3 (List.mem_of_getElem? (i := 235) rfl)
theorem k_716 : (Jvm.Cond.fieldLink "Signatory" (225 : Nat) "Signatory$Deed" "ratifiedOn" "I") ∈ lw_tbl := lw_m3 (List.mem_of_getElem? (i := 236) rfl)
theorem k_717 : (Jvm.Cond.fieldLink "Signatory" (228 : Nat) "Signatory$Deed" "papersWhenRatified" "I") ∈ lw_tbl := lw_m3 (List.mem_of_getElem? (i := 237) rfl)
theorem k_718 : (Jvm.Cond.laysFinal "Signatory$Deed" "Signatory$Deed" "number" "I") ∈ lw_tbl := lw_m3 (List.mem_of_getElem? (i := 238) rfl)
theorem k_719 : (Jvm.Cond.soleField "Signatory$Deed" "number") ∈ lw_tbl := lw_m3 (List.mem_of_getElem? (i := 239) rfl)
theorem k_720 : (Jvm.Cond.laysFinal "Signatory$Deed" "Signatory$Deed" "signer" "I") ∈ lw_tbl := lw_m4 (List.mem_of_getElem? (i := 0) rfl)
theorem k_721 : (Jvm.Cond.soleField "Signatory$Deed" "signer") ∈ lw_tbl := lw_m4 (List.mem_of_getElem? (i := 1) rfl)
theorem k_722 : (Jvm.Cond.laysFinal "Signatory$Deed" "Signatory$Deed" "other" "I") ∈ lw_tbl := lw_m4 (List.mem_of_getElem? (i := 2) rfl)
theorem k_723 : (Jvm.Cond.soleField "Signatory$Deed" "other") ∈ lw_tbl := lw_m4 (List.mem_of_getElem? (i := 3) rfl)
theorem k_724 : (Jvm.Cond.laysFinal "Signatory$Deed" "Signatory$Deed" "kind" "I") ∈ lw_tbl := lw_m4 (List.mem_of_getElem? (i := 4) rfl)
theorem k_725 : (Jvm.Cond.soleField "Signatory$Deed" "kind") ∈ lw_tbl := lw_m4 (List.mem_of_getElem? (i := 5) rfl)
theorem k_726 : (Jvm.Cond.laysFinal "Signatory$Deed" "Signatory$Deed" "amount" "I") ∈ lw_tbl := lw_m4 (List.mem_of_getElem? (i := 6) rfl)
theorem k_727 : (Jvm.Cond.soleField "Signatory$Deed" "amount") ∈ lw_tbl := lw_m4 (List.mem_of_getElem? (i := 7) rfl)
theorem k_728 : (Jvm.Cond.laysFinal "Signatory$Deed" "Signatory$Deed" "party" "I") ∈ lw_tbl := lw_m4 (List.mem_of_getElem? (i := 8) rfl)
theorem k_729 : (Jvm.Cond.soleField "Signatory$Deed" "party") ∈ lw_tbl := lw_m4 (List.mem_of_getElem? (i := 9) rfl)
theorem k_730 : (Jvm.Cond.lays "Signatory$Deed" "Signatory$Deed" "signedOn" "I") ∈ lw_tbl := lw_m4 (List.mem_of_getElem? (i := 10) rfl)
theorem k_731 : (Jvm.Cond.soleField "Signatory$Deed" "signedOn") ∈ lw_tbl := lw_m4 (List.mem_of_getElem? (i := 11) rfl)
theorem k_732 : (Jvm.Cond.lays "Signatory$Deed" "Signatory$Deed" "papersWhenSigned" "I") ∈ lw_tbl := lw_m4 (List.mem_of_getElem? (i := 12) rfl)
theorem k_733 : (Jvm.Cond.soleField "Signatory$Deed" "papersWhenSigned") ∈ lw_tbl := lw_m4 (List.mem_of_getElem? (i := 13) rfl)
theorem k_734 : (Jvm.Cond.lays "Signatory$Deed" "Signatory$Deed" "sum" "I") ∈ lw_tbl := lw_m4 (List.mem_of_getElem? (i := 14) rfl)
theorem k_735 : (Jvm.Cond.soleField "Signatory$Deed" "sum") ∈ lw_tbl := lw_m4 (List.mem_of_getElem? (i := 15) rfl)
theorem k_736 : (Jvm.Cond.lays "Signatory$Deed" "Signatory$Deed" "status" "C") ∈ lw_tbl := lw_m4 (List.mem_of_getElem? (i := 16) rfl)
theorem k_737 : (Jvm.Cond.soleField "Signatory$Deed" "status") ∈ lw_tbl := lw_m4 (List.mem_of_getElem? (i := 17) rfl)
theorem k_738 : (Jvm.Cond.lays "Signatory$Deed" "Signatory$Deed" "lack" "C") ∈ lw_tbl := lw_m4 (List.mem_of_getElem? (i := 18) rfl)
theorem k_739 : (Jvm.Cond.soleField "Signatory$Deed" "lack") ∈ lw_tbl := lw_m4 (List.mem_of_getElem? (i := 19) rfl)
theorem k_740 : (Jvm.Cond.lays "Signatory$Deed" "Signatory$Deed" "lackPower" "I") ∈ lw_tbl := lw_m4 (List.mem_of_getElem? (i := 20) rfl)
theorem k_741 : (Jvm.Cond.soleField "Signatory$Deed" "lackPower") ∈ lw_tbl := lw_m4 (List.mem_of_getElem? (i := 21) rfl)
theorem k_742 : (Jvm.Cond.lays "Signatory$Deed" "Signatory$Deed" "lackDepth" "I") ∈ lw_tbl := lw_m4 (List.mem_of_getElem? (i := 22) rfl)
theorem k_743 : (Jvm.Cond.soleField "Signatory$Deed" "lackDepth") ∈ lw_tbl := lw_m4 (List.mem_of_getElem? (i := 23) rfl)
theorem k_744 : (Jvm.Cond.lays "Signatory$Deed" "Signatory$Deed" "ratifier" "I") ∈ lw_tbl := lw_m4 (List.mem_of_getElem? (i := 24) rfl)
theorem k_745 : (Jvm.Cond.soleField "Signatory$Deed" "ratifier") ∈ lw_tbl := lw_m4 (List.mem_of_getElem? (i := 25) rfl)
theorem k_746 : (Jvm.Cond.lays "Signatory$Deed" "Signatory$Deed" "ratifiedOn" "I") ∈ lw_tbl := lw_m4 (List.mem_of_getElem? (i := 26) rfl)
theorem k_747 : (Jvm.Cond.soleField "Signatory$Deed" "ratifiedOn") ∈ lw_tbl := lw_m4 (List.mem_of_getElem? (i := 27) rfl)
theorem k_748 : (Jvm.Cond.lays "Signatory$Deed" "Signatory$Deed" "papersWhenRatified" "I") ∈ lw_tbl := lw_m4 (List.mem_of_getElem? (i := 28) rfl)
theorem k_749 : (Jvm.Cond.soleField "Signatory$Deed" "papersWhenRatified") ∈ lw_tbl := lw_m4 (List.mem_of_getElem? (i := 29) rfl)
theorem k_750 : (Jvm.Cond.superclass "Signatory$Deed" "java/lang/Object") ∈ lw_tbl := lw_m4 (List.mem_of_getElem? (i := 30) rfl)
theorem k_751 : (Jvm.Cond.methodLink "Signatory" (197 : Nat) ({ cls := "Signatory", name := "keepDeed", desc := "(LSignatory$Deed;)I" } : Jvm.MethodName)) ∈ lw_tbl := lw_m4 (List.mem_of_getElem? (i := 31) rfl)
theorem k_752 : (Jvm.Cond.privateMethod ({ cls := "Signatory", name := "keepDeed", desc := "(LSignatory$Deed;)I" } : Jvm.MethodName)) ∈ lw_tbl := lw_m4 (List.mem_of_getElem? (i := 32) rfl)
theorem k_753 : (Jvm.Cond.instanceMethod ({ cls := "Signatory", name := "keepDeed", desc := "(LSignatory$Deed;)I" } : Jvm.MethodName)) ∈ lw_tbl := lw_m4 (List.mem_of_getElem? (i := 33) rfl)
theorem k_754 : (Jvm.Cond.code ({ cls := "Signatory", name := "keepDeed", desc := "(LSignatory$Deed;)I" } : Jvm.MethodName) prog_1_method_63_code (2 : Nat) (Option.some Jvm.ClassFile.FieldType.int)) ∈ lw_tbl := lw_m4 (List.mem_of_getElem? (i := 34) rfl)
theorem k_755 : (Jvm.Cond.methodLink "Signatory" (243 : Nat) ({ cls := "Signatory", name := "addUp", desc := "(LSignatory$Deed;LSignatory$Moment;)I" } : Jvm.MethodName)) ∈ lw_tbl := lw_m4 (List.mem_of_getElem? (i := 35) rfl)
theorem k_756 : (Jvm.Cond.privateMethod ({ cls := "Signatory", name := "addUp", desc := "(LSignatory$Deed;LSignatory$Moment;)I" } : Jvm.MethodName)) ∈ lw_tbl := lw_m4 (List.mem_of_getElem? (i := 36) rfl)
theorem k_757 : (Jvm.Cond.instanceMethod ({ cls := "Signatory", name := "addUp", desc := "(LSignatory$Deed;LSignatory$Moment;)I" } : Jvm.MethodName)) ∈ lw_tbl := lw_m4 (List.mem_of_getElem? (i := 37) rfl)
theorem k_758 : (Jvm.Cond.code ({ cls := "Signatory", name := "addUp", desc := "(LSignatory$Deed;LSignatory$Moment;)I" } : Jvm.MethodName) prog_1_method_64_code (6 : Nat) (Option.some Jvm.ClassFile.FieldType.int)) ∈ lw_tbl := lw_m4 (List.mem_of_getElem? (i := 38) rfl)
theorem k_759 : (Jvm.Cond.methodLink "Signatory" (351 : Nat) ({ cls := "Signatory$Moment", name := "isAnnulled", desc := "(LSignatory$Deed;)Z" } : Jvm.MethodName)) ∈ lw_tbl := lw_m4 (List.mem_of_getElem? (i := 39) rfl)
theorem k_760 : (Jvm.Cond.instanceMethod ({ cls := "Signatory$Moment", name := "isAnnulled", desc := "(LSignatory$Deed;)Z" } : Jvm.MethodName)) ∈ lw_tbl := lw_m4 (List.mem_of_getElem? (i := 40) rfl)
theorem k_761 : (Jvm.Cond.selects "Signatory$Moment" ({ cls := "Signatory$Moment", name := "isAnnulled", desc := "(LSignatory$Deed;)Z" } : Jvm.MethodName) ({ cls := "Signatory$Moment", name := "isAnnulled", desc := "(LSignatory$Deed;)Z" } : Jvm.MethodName)) ∈ lw_tbl := lw_m4 (List.mem_of_getElem? (i := 41) rfl)
theorem k_762 : (Jvm.Cond.code ({ cls := "Signatory$Moment", name := "isAnnulled", desc := "(LSignatory$Deed;)Z" } : Jvm.MethodName) prog_3_method_6_code (2 : Nat) (Option.some Jvm.ClassFile.FieldType.boolean)) ∈ lw_tbl := lw_m4 (List.mem_of_getElem? (i := 42) rfl)
theorem k_763 : (Jvm.Cond.methodLink "Signatory" (251 : Nat) ({ cls := "Signatory", name := "signersSuffice", desc := "(LSignatory$Deed;ILSignatory$Moment;)Z" } : Jvm.MethodName)) ∈ lw_tbl := lw_m4 (List.mem_of_getElem? (i := 43) rfl)
theorem k_764 : (Jvm.Cond.privateMethod ({ cls := "Signatory", name := "signersSuffice", desc := "(LSignatory$Deed;ILSignatory$Moment;)Z" } : Jvm.MethodName)) ∈ lw_tbl := lw_m4 (List.mem_of_getElem? (i := 44) rfl)
theorem k_765 : (Jvm.Cond.instanceMethod ({ cls := "Signatory", name := "signersSuffice", desc := "(LSignatory$Deed;ILSignatory$Moment;)Z" } : Jvm.MethodName)) ∈ lw_tbl := lw_m4 (List.mem_of_getElem? (i := 45) rfl)
theorem k_766 : (Jvm.Cond.code ({ cls := "Signatory", name := "signersSuffice", desc := "(LSignatory$Deed;ILSignatory$Moment;)Z" } : Jvm.MethodName) prog_1_method_65_code (6 : Nat) (Option.some Jvm.ClassFile.FieldType.boolean)) ∈ lw_tbl := lw_m4 (List.mem_of_getElem? (i := 46) rfl)
theorem k_767 : (Jvm.Cond.methodLink "Signatory" (344 : Nat) ({ cls := "Signatory", name := "findLack", desc := "(LSignatory$Deed;)V" } : Jvm.MethodName)) ∈ lw_tbl := lw_m4 (List.mem_of_getElem? (i := 47) rfl)
theorem k_768 : (Jvm.Cond.privateMethod ({ cls := "Signatory", name := "findLack", desc := "(LSignatory$Deed;)V" } : Jvm.MethodName)) ∈ lw_tbl := lw_m4 (List.mem_of_getElem? (i := 48) rfl)
theorem k_769 : (Jvm.Cond.instanceMethod ({ cls := "Signatory", name := "findLack", desc := "(LSignatory$Deed;)V" } : Jvm.MethodName)) ∈ lw_tbl := lw_m4 (List.mem_of_getElem? (i := 49) rfl)
theorem k_770 : (Jvm.Cond.code ({ cls := "Signatory", name := "findLack", desc := "(LSignatory$Deed;)V" } : Jvm.MethodName) prog_1_method_66_code (4 : Nat) (Option.none : Option Jvm.ClassFile.FieldType)) ∈ lw_tbl := lw_m4 (List.mem_of_getElem? (i := 50) rfl)
theorem k_771 : (Jvm.Cond.methodLink "Signatory" (361 : Nat) ({ cls := "Signatory", name := "signersActBy", desc := "(LSignatory$Power;LSignatory$Deed;)Z" } : Jvm.MethodName)) ∈ lw_tbl := lw_m4 (List.mem_of_getElem? (i := 51) rfl)
theorem k_772 : (Jvm.Cond.privateMethod ({ cls := "Signatory", name := "signersActBy", desc := "(LSignatory$Power;LSignatory$Deed;)Z" } : Jvm.MethodName)) ∈ lw_tbl := lw_m4 (List.mem_of_getElem? (i := 52) rfl)
theorem k_773 : (Jvm.Cond.instanceMethod ({ cls := "Signatory", name := "signersActBy", desc := "(LSignatory$Power;LSignatory$Deed;)Z" } : Jvm.MethodName)) ∈ lw_tbl := lw_m4 (List.mem_of_getElem? (i := 53) rfl)
theorem k_774 : (Jvm.Cond.code ({ cls := "Signatory", name := "signersActBy", desc := "(LSignatory$Power;LSignatory$Deed;)Z" } : Jvm.MethodName) prog_1_method_67_code (3 : Nat) (Option.some Jvm.ClassFile.FieldType.boolean)) ∈ lw_tbl := lw_m4 (List.mem_of_getElem? (i := 54) rfl)
theorem k_775 : (Jvm.Cond.methodLink "Signatory" (365 : Nat) ({ cls := "Signatory", name := "noteLack", desc := "(LSignatory$Deed;LSignatory$Power;)V" } : Jvm.MethodName)) ∈ lw_tbl := lw_m4 (List.mem_of_getElem? (i := 55) rfl)
theorem k_776 : (Jvm.Cond.privateMethod ({ cls := "Signatory", name := "noteLack", desc := "(LSignatory$Deed;LSignatory$Power;)V" } : Jvm.MethodName)) ∈ lw_tbl := lw_m4 (List.mem_of_getElem? (i := 56) rfl)
theorem k_777 : (Jvm.Cond.instanceMethod ({ cls := "Signatory", name := "noteLack", desc := "(LSignatory$Deed;LSignatory$Power;)V" } : Jvm.MethodName)) ∈ lw_tbl := lw_m4 (List.mem_of_getElem? (i := 57) rfl)
theorem k_778 : (Jvm.Cond.code ({ cls := "Signatory", name := "noteLack", desc := "(LSignatory$Deed;LSignatory$Power;)V" } : Jvm.MethodName) prog_1_method_68_code (5 : Nat) (Option.none : Option Jvm.ClassFile.FieldType)) ∈ lw_tbl := lw_m4 (List.mem_of_getElem? (i := 58) rfl)
theorem k_779 : (Jvm.Cond.stringRef "Signatory" (369 : Nat) "kdvlh") ∈ lw_tbl := lw_m4 (List.mem_of_getElem? (i := 59) rfl)
theorem k_780 : (Jvm.Cond.methodLink "Signatory" (371 : Nat) ({ cls := "java/lang/String", name := "indexOf", desc := "(I)I" } : Jvm.MethodName)) ∈ lw_tbl := lw_m4 (List.mem_of_getElem? (i := 60) rfl)
theorem k_781 : (Jvm.Cond.instanceMethod ({ cls := "java/lang/String", name := "indexOf", desc := "(I)I" } : Jvm.MethodName)) ∈ lw_tbl := lw_m4 (List.mem_of_getElem? (i := 61) rfl)
theorem k_782 : (Jvm.Cond.selects "java/lang/String" ({ cls := "java/lang/String", name := "indexOf", desc := "(I)I" } : Jvm.MethodName) ({ cls := "java/lang/String", name := "indexOf", desc := "(I)I" } : Jvm.MethodName)) ∈ lw_tbl := lw_m4 (List.mem_of_getElem? (i := 62) rfl)
theorem k_783 : (Jvm.Cond.code ({ cls := "java/lang/String", name := "indexOf", desc := "(I)I" } : Jvm.MethodName) prog_20_method_79_code (2 : Nat) (Option.some Jvm.ClassFile.FieldType.int)) ∈ lw_tbl := lw_m4 (List.mem_of_getElem? (i := 63) rfl)
theorem k_784 : (Jvm.Cond.methodLink "java/lang/String" (633 : Nat) ({ cls := "java/lang/String", name := "indexOf", desc := "(II)I" } : Jvm.MethodName)) ∈ lw_tbl := lw_m4 (List.mem_of_getElem? (i := 64) rfl)
theorem k_785 : (Jvm.Cond.instanceMethod ({ cls := "java/lang/String", name := "indexOf", desc := "(II)I" } : Jvm.MethodName)) ∈ lw_tbl := lw_m4 (List.mem_of_getElem? (i := 65) rfl)
theorem k_786 : (Jvm.Cond.selects "java/lang/String" ({ cls := "java/lang/String", name := "indexOf", desc := "(II)I" } : Jvm.MethodName) ({ cls := "java/lang/String", name := "indexOf", desc := "(II)I" } : Jvm.MethodName)) ∈ lw_tbl := lw_m4 (List.mem_of_getElem? (i := 66) rfl)
theorem k_787 : (Jvm.Cond.code ({ cls := "java/lang/String", name := "indexOf", desc := "(II)I" } : Jvm.MethodName) prog_20_method_80_code (3 : Nat) (Option.some Jvm.ClassFile.FieldType.int)) ∈ lw_tbl := lw_m4 (List.mem_of_getElem? (i := 67) rfl)
theorem k_788 : (Jvm.Cond.methodLink "java/lang/String" (492 : Nat) ({ cls := "java/lang/String", name := "isLatin1", desc := "()Z" } : Jvm.MethodName)) ∈ lw_tbl := lw_m4 (List.mem_of_getElem? (i := 68) rfl)
theorem k_789 : (Jvm.Cond.instanceMethod ({ cls := "java/lang/String", name := "isLatin1", desc := "()Z" } : Jvm.MethodName)) ∈ lw_tbl := lw_m4 (List.mem_of_getElem? (i := 69) rfl)
theorem k_790 : (Jvm.Cond.selects "java/lang/String" ({ cls := "java/lang/String", name := "isLatin1", desc := "()Z" } : Jvm.MethodName) ({ cls := "java/lang/String", name := "isLatin1", desc := "()Z" } : Jvm.MethodName)) ∈ lw_tbl := lw_m4 (List.mem_of_getElem? (i := 70) rfl)
theorem k_791 : (Jvm.Cond.code ({ cls := "java/lang/String", name := "isLatin1", desc := "()Z" } : Jvm.MethodName) prog_20_method_154_code (1 : Nat) (Option.some Jvm.ClassFile.FieldType.boolean)) ∈ lw_tbl := lw_m4 (List.mem_of_getElem? (i := 71) rfl)
theorem k_792 : (Jvm.Cond.fieldLink "java/lang/String" (38 : Nat) "java/lang/String" "COMPACT_STRINGS" "Z") ∈ lw_tbl := lw_m4 (List.mem_of_getElem? (i := 72) rfl)
theorem k_793 : (Jvm.Cond.laysStatic "java/lang/String" "COMPACT_STRINGS" "Z") ∈ lw_tbl := lw_m4 (List.mem_of_getElem? (i := 73) rfl)
theorem k_794 : (Jvm.Cond.methodLink "java/lang/String" (505 : Nat) ({ cls := "java/lang/String", name := "length", desc := "()I" } : Jvm.MethodName)) ∈ lw_tbl := lw_m4 (List.mem_of_getElem? (i := 74) rfl)
theorem k_795 : (Jvm.Cond.instanceMethod ({ cls := "java/lang/String", name := "length", desc := "()I" } : Jvm.MethodName)) ∈ lw_tbl := lw_m4 (List.mem_of_getElem? (i := 75) rfl)
theorem k_796 : (Jvm.Cond.selects "java/lang/String" ({ cls := "java/lang/String", name := "length", desc := "()I" } : Jvm.MethodName) ({ cls := "java/lang/String", name := "length", desc := "()I" } : Jvm.MethodName)) ∈ lw_tbl := lw_m4 (List.mem_of_getElem? (i := 76) rfl)
theorem k_797 : (Jvm.Cond.code ({ cls := "java/lang/String", name := "length", desc := "()I" } : Jvm.MethodName) prog_20_method_54_code (1 : Nat) (Option.some Jvm.ClassFile.FieldType.int)) ∈ lw_tbl := lw_m4 (List.mem_of_getElem? (i := 77) rfl)
theorem k_798 : (Jvm.Cond.methodLink "java/lang/String" (335 : Nat) ({ cls := "java/lang/String", name := "coder", desc := "()B" } : Jvm.MethodName)) ∈ lw_tbl := lw_m4 (List.mem_of_getElem? (i := 78) rfl)
theorem k_799 : (Jvm.Cond.instanceMethod ({ cls := "java/lang/String", name := "coder", desc := "()B" } : Jvm.MethodName)) ∈ lw_tbl := lw_m4 (List.mem_of_getElem? (i := 79) rfl)
theorem k_800 : (Jvm.Cond.selects "java/lang/String" ({ cls := "java/lang/String", name := "coder", desc := "()B" } : Jvm.MethodName) ({ cls := "java/lang/String", name := "coder", desc := "()B" } : Jvm.MethodName)) ∈ lw_tbl := lw_m4 (List.mem_of_getElem? (i := 80) rfl)
theorem k_801 : (Jvm.Cond.code ({ cls := "java/lang/String", name := "coder", desc := "()B" } : Jvm.MethodName) prog_20_method_152_code (1 : Nat) (Option.some Jvm.ClassFile.FieldType.byte)) ∈ lw_tbl := lw_m4 (List.mem_of_getElem? (i := 81) rfl)
theorem k_802 : (Jvm.Cond.methodLink "java/lang/String" (637 : Nat) ({ cls := "java/lang/StringLatin1", name := "indexOf", desc := "([BIII)I" } : Jvm.MethodName)) ∈ lw_tbl := lw_m4 (List.mem_of_getElem? (i := 82) rfl)
theorem k_803 : (Jvm.Cond.static ({ cls := "java/lang/StringLatin1", name := "indexOf", desc := "([BIII)I" } : Jvm.MethodName)) ∈ lw_tbl := lw_m4 (List.mem_of_getElem? (i := 83) rfl)
theorem k_804 : (Jvm.Cond.code ({ cls := "java/lang/StringLatin1", name := "indexOf", desc := "([BIII)I" } : Jvm.MethodName) prog_21_method_22_code (4 : Nat) (Option.some Jvm.ClassFile.FieldType.int)) ∈ lw_tbl := lw_m4 (List.mem_of_getElem? (i := 84) rfl)
theorem k_805 : (Jvm.Cond.methodLink "java/lang/StringLatin1" (88 : Nat) ({ cls := "java/lang/StringLatin1", name := "canEncode", desc := "(I)Z" } : Jvm.MethodName)) ∈ lw_tbl := lw_m4 (List.mem_of_getElem? (i := 85) rfl)
theorem k_806 : (Jvm.Cond.static ({ cls := "java/lang/StringLatin1", name := "canEncode", desc := "(I)Z" } : Jvm.MethodName)) ∈ lw_tbl := lw_m4 (List.mem_of_getElem? (i := 86) rfl)
theorem k_807 : (Jvm.Cond.code ({ cls := "java/lang/StringLatin1", name := "canEncode", desc := "(I)Z" } : Jvm.MethodName) prog_21_method_4_code (1 : Nat) (Option.some Jvm.ClassFile.FieldType.boolean)) ∈ lw_tbl := lw_m4 (List.mem_of_getElem? (i := 87) rfl)
theorem k_808 : (Jvm.Cond.methodLink "java/lang/StringLatin1" (92 : Nat) ({ cls := "java/lang/Math", name := "max", desc := "(II)I" } : Jvm.MethodName)) ∈ lw_tbl := lw_m4 (List.mem_of_getElem? (i := 88) rfl)
theorem k_809 : (Jvm.Cond.methodLink "java/lang/StringLatin1" (38 : Nat) ({ cls := "java/lang/Math", name := "min", desc := "(II)I" } : Jvm.MethodName)) ∈ lw_tbl := lw_m4 (List.mem_of_getElem? (i := 89) rfl)
theorem k_810 : (Jvm.Cond.methodLink "java/lang/StringLatin1" (95 : Nat) ({ cls := "java/lang/StringLatin1", name := "indexOfChar", desc := "([BIII)I" } : Jvm.MethodName)) ∈ lw_tbl := lw_m4 (List.mem_of_getElem? (i := 90) rfl)
theorem k_811 : (Jvm.Cond.static ({ cls := "java/lang/StringLatin1", name := "indexOfChar", desc := "([BIII)I" } : Jvm.MethodName)) ∈ lw_tbl := lw_m4 (List.mem_of_getElem? (i := 91) rfl)
theorem k_812 : (Jvm.Cond.code ({ cls := "java/lang/StringLatin1", name := "indexOfChar", desc := "([BIII)I" } : Jvm.MethodName) prog_21_method_23_code (6 : Nat) (Option.some Jvm.ClassFile.FieldType.int)) ∈ lw_tbl := lw_m4 (List.mem_of_getElem? (i := 92) rfl)
theorem k_813 : (Jvm.Cond.methodLink "java/lang/String" (640 : Nat) ({ cls := "java/lang/StringUTF16", name := "indexOf", desc := "([BIII)I" } : Jvm.MethodName)) ∈ lw_tbl := lw_m4 (List.mem_of_getElem? (i := 93) rfl)
theorem k_814 : (Jvm.Cond.static ({ cls := "java/lang/StringUTF16", name := "indexOf", desc := "([BIII)I" } : Jvm.MethodName)) ∈ lw_tbl := lw_m4 (List.mem_of_getElem? (i := 94) rfl)
theorem k_815 : (Jvm.Cond.code ({ cls := "java/lang/StringUTF16", name := "indexOf", desc := "([BIII)I" } : Jvm.MethodName) prog_22_method_40_code (4 : Nat) (Option.some Jvm.ClassFile.FieldType.int)) ∈ lw_tbl := lw_m4 (List.mem_of_getElem? (i := 95) rfl)
theorem k_816 : (Jvm.Cond.methodLink "java/lang/StringUTF16" (224 : Nat) ({ cls := "java/lang/Math", name := "max", desc := "(II)I" } : Jvm.MethodName)) ∈ lw_tbl := lw_m4 (List.mem_of_getElem? (i := 96) rfl)
theorem k_817 : (Jvm.Cond.methodLink "java/lang/StringUTF16" (183 : Nat) ({ cls := "java/lang/Math", name := "min", desc := "(II)I" } : Jvm.MethodName)) ∈ lw_tbl := lw_m4 (List.mem_of_getElem? (i := 97) rfl)
theorem k_818 : (Jvm.Cond.constant "java/lang/StringUTF16" (227 : Nat) (65536 : Int32)) ∈ lw_tbl := lw_m4 (List.mem_of_getElem? (i := 98) rfl)
theorem k_819 : (Jvm.Cond.methodLink "java/lang/StringUTF16" (228 : Nat) ({ cls := "java/lang/StringUTF16", name := "indexOfChar", desc := "([BIII)I" } : Jvm.MethodName)) ∈ lw_tbl := lw_m4 (List.mem_of_getElem? (i := 99) rfl)
theorem k_820 : (Jvm.Cond.static ({ cls := "java/lang/StringUTF16", name := "indexOfChar", desc := "([BIII)I" } : Jvm.MethodName)) ∈ lw_tbl := lw_m4 (List.mem_of_getElem? (i := 100) rfl)
theorem k_821 : (Jvm.Cond.code ({ cls := "java/lang/StringUTF16", name := "indexOfChar", desc := "([BIII)I" } : Jvm.MethodName) prog_22_method_47_code (4 : Nat) (Option.some Jvm.ClassFile.FieldType.int)) ∈ lw_tbl := lw_m4 (List.mem_of_getElem? (i := 101) rfl)
theorem k_822 : (Jvm.Cond.methodLink "java/lang/StringUTF16" (96 : Nat) ({ cls := "java/lang/StringUTF16", name := "checkBoundsBeginEnd", desc := "(II[B)V" } : Jvm.MethodName)) ∈ lw_tbl := lw_m4 (List.mem_of_getElem? (i := 102) rfl)
theorem k_823 : (Jvm.Cond.static ({ cls := "java/lang/StringUTF16", name := "checkBoundsBeginEnd", desc := "(II[B)V" } : Jvm.MethodName)) ∈ lw_tbl := lw_m4 (List.mem_of_getElem? (i := 103) rfl)
theorem k_824 : (Jvm.Cond.code ({ cls := "java/lang/StringUTF16", name := "checkBoundsBeginEnd", desc := "(II[B)V" } : Jvm.MethodName) prog_22_method_93_code (3 : Nat) (Option.none : Option Jvm.ClassFile.FieldType)) ∈ lw_tbl := lw_m4 (List.mem_of_getElem? (i := 104) rfl)
theorem k_825 : (Jvm.Cond.methodLink "java/lang/StringUTF16" (48 : Nat) ({ cls := "java/lang/StringUTF16", name := "length", desc := "([B)I" } : Jvm.MethodName)) ∈ lw_tbl := lw_m4 (List.mem_of_getElem? (i := 105) rfl)
theorem k_826 : (Jvm.Cond.static ({ cls := "java/lang/StringUTF16", name := "length", desc := "([B)I" } : Jvm.MethodName)) ∈ lw_tbl := lw_m4 (List.mem_of_getElem? (i := 106) rfl)
theorem k_827 : (Jvm.Cond.code ({ cls := "java/lang/StringUTF16", name := "length", desc := "([B)I" } : Jvm.MethodName) prog_22_method_6_code (1 : Nat) (Option.some Jvm.ClassFile.FieldType.int)) ∈ lw_tbl := lw_m4 (List.mem_of_getElem? (i := 107) rfl)
theorem k_828 : (Jvm.Cond.methodLink "java/lang/StringUTF16" (241 : Nat) ({ cls := "java/lang/String", name := "checkBoundsBeginEnd", desc := "(III)V" } : Jvm.MethodName)) ∈ lw_tbl := lw_m4 (List.mem_of_getElem? (i := 108) rfl)
theorem k_829 : (Jvm.Cond.static ({ cls := "java/lang/String", name := "checkBoundsBeginEnd", desc := "(III)V" } : Jvm.MethodName)) ∈ lw_tbl := lw_m4 (List.mem_of_getElem? (i := 109) rfl)
theorem k_830 : (Jvm.Cond.code ({ cls := "java/lang/String", name := "checkBoundsBeginEnd", desc := "(III)V" } : Jvm.MethodName) prog_20_method_158_code (3 : Nat) (Option.none : Option Jvm.ClassFile.FieldType)) ∈ lw_tbl := lw_m4 (List.mem_of_getElem? (i := 110) rfl)
theorem k_831 : (Jvm.Cond.fieldLink "java/lang/String" (1053 : Nat) "jdk/internal/util/Preconditions" "SIOOBE_FORMATTER" "Ljava/util/function/BiFunction;") ∈ lw_tbl := lw_m4 (List.mem_of_getElem? (i := 111) rfl)
theorem k_832 : (Jvm.Cond.laysStatic "jdk/internal/util/Preconditions" "SIOOBE_FORMATTER" "Ljava/util/function/BiFunction;") ∈ lw_tbl := lw_m4 (List.mem_of_getElem? (i := 112) rfl)
theorem k_833 : (Jvm.Cond.methodLink "java/lang/String" (1062 : Nat) ({ cls := "jdk/internal/util/Preconditions", name := "checkFromToIndex", desc := "(IIILjava/util/function/BiFunction;)I" } : Jvm.MethodName)) ∈ lw_tbl := lw_m4 (List.mem_of_getElem? (i := 113) rfl)
theorem k_834 : (Jvm.Cond.static ({ cls := "jdk/internal/util/Preconditions", name := "checkFromToIndex", desc := "(IIILjava/util/function/BiFunction;)I" } : Jvm.MethodName)) ∈ lw_tbl := lw_m4 (List.mem_of_getElem? (i := 114) rfl)
theorem k_835 : (Jvm.Cond.code ({ cls := "jdk/internal/util/Preconditions", name := "checkFromToIndex", desc := "(IIILjava/util/function/BiFunction;)I" } : Jvm.MethodName) prog_39_method_12_code (4 : Nat) (Option.some Jvm.ClassFile.FieldType.int)) ∈ lw_tbl := lw_m4 (List.mem_of_getElem? (i := 115) rfl)
theorem k_836 : (Jvm.Cond.methodLink "java/lang/StringUTF16" (244 : Nat) ({ cls := "java/lang/StringUTF16", name := "indexOfCharUnsafe", desc := "([BIII)I" } : Jvm.MethodName)) ∈ lw_tbl := lw_m4 (List.mem_of_getElem? (i := 116) rfl)
theorem k_837 : (Jvm.Cond.static ({ cls := "java/lang/StringUTF16", name := "indexOfCharUnsafe", desc := "([BIII)I" } : Jvm.MethodName)) ∈ lw_tbl := lw_m4 (List.mem_of_getElem? (i := 117) rfl)
theorem k_838 : (Jvm.Cond.code ({ cls := "java/lang/StringUTF16", name := "indexOfCharUnsafe", desc := "([BIII)I" } : Jvm.MethodName) prog_22_method_48_code (5 : Nat) (Option.some Jvm.ClassFile.FieldType.int)) ∈ lw_tbl := lw_m4 (List.mem_of_getElem? (i := 118) rfl)
theorem k_839 : (Jvm.Cond.methodLink "java/lang/StringUTF16" (71 : Nat) ({ cls := "java/lang/StringUTF16", name := "getChar", desc := "([BI)C" } : Jvm.MethodName)) ∈ lw_tbl := lw_m4 (List.mem_of_getElem? (i := 119) rfl)
theorem k_840 : (Jvm.Cond.static ({ cls := "java/lang/StringUTF16", name := "getChar", desc := "([BI)C" } : Jvm.MethodName)) ∈ lw_tbl := lw_m4 (List.mem_of_getElem? (i := 120) rfl)
theorem k_841 : (Jvm.Cond.code ({ cls := "java/lang/StringUTF16", name := "getChar", desc := "([BI)C" } : Jvm.MethodName) prog_22_method_5_code (2 : Nat) (Option.some Jvm.ClassFile.FieldType.char)) ∈ lw_tbl := lw_m4 (List.mem_of_getElem? (i := 121) rfl)
theorem k_842 : (Jvm.Cond.fieldLink "java/lang/StringUTF16" (44 : Nat) "java/lang/StringUTF16" "$assertionsDisabled" "Z") ∈ lw_tbl := lw_m4 (List.mem_of_getElem? (i := 122) rfl)
theorem k_843 : (Jvm.Cond.laysStatic "java/lang/StringUTF16" "$assertionsDisabled" "Z") ∈ lw_tbl := lw_m4 (List.mem_of_getElem? (i := 123) rfl)
theorem k_844 : (Jvm.Cond.fieldLink "java/lang/StringUTF16" (59 : Nat) "java/lang/StringUTF16" "HI_BYTE_SHIFT" "I") ∈ lw_tbl := lw_m4 (List.mem_of_getElem? (i := 124) rfl)
theorem k_845 : (Jvm.Cond.laysStatic "java/lang/StringUTF16" "HI_BYTE_SHIFT" "I") ∈ lw_tbl := lw_m4 (List.mem_of_getElem? (i := 125) rfl)
theorem k_846 : (Jvm.Cond.fieldLink "java/lang/StringUTF16" (63 : Nat) "java/lang/StringUTF16" "LO_BYTE_SHIFT" "I") ∈ lw_tbl := lw_m4 (List.mem_of_getElem? (i := 126) rfl)
theorem k_847 : (Jvm.Cond.laysStatic "java/lang/StringUTF16" "LO_BYTE_SHIFT" "I") ∈ lw_tbl := lw_m4 (List.mem_of_getElem? (i := 127) rfl)
theorem k_848 : (Jvm.Cond.methodLink "java/lang/StringUTF16" (232 : Nat) ({ cls := "java/lang/StringUTF16", name := "indexOfSupplementary", desc := "([BIII)I" } : Jvm.MethodName)) ∈ lw_tbl := lw_m4 (List.mem_of_getElem? (i := 128) rfl)
theorem k_849 : (Jvm.Cond.static ({ cls := "java/lang/StringUTF16", name := "indexOfSupplementary", desc := "([BIII)I" } : Jvm.MethodName)) ∈ lw_tbl := lw_m4 (List.mem_of_getElem? (i := 129) rfl)
theorem k_850 : (Jvm.Cond.code ({ cls := "java/lang/StringUTF16", name := "indexOfSupplementary", desc := "([BIII)I" } : Jvm.MethodName) prog_22_method_49_code (7 : Nat) (Option.some Jvm.ClassFile.FieldType.int)) ∈ lw_tbl := lw_m4 (List.mem_of_getElem? (i := 130) rfl)
theorem k_851 : (Jvm.Cond.methodLink "java/lang/StringUTF16" (164 : Nat) ({ cls := "java/lang/Character", name := "isValidCodePoint", desc := "(I)Z" } : Jvm.MethodName)) ∈ lw_tbl := lw_m4 (List.mem_of_getElem? (i := 131) rfl)
theorem k_852 : (Jvm.Cond.static ({ cls := "java/lang/Character", name := "isValidCodePoint", desc := "(I)Z" } : Jvm.MethodName)) ∈ lw_tbl := lw_m4 (List.mem_of_getElem? (i := 132) rfl)
theorem k_853 : (Jvm.Cond.code ({ cls := "java/lang/Character", name := "isValidCodePoint", desc := "(I)Z" } : Jvm.MethodName) prog_10_method_11_code (2 : Nat) (Option.some Jvm.ClassFile.FieldType.boolean)) ∈ lw_tbl := lw_m4 (List.mem_of_getElem? (i := 133) rfl)
theorem k_854 : (Jvm.Cond.methodLink "java/lang/StringUTF16" (157 : Nat) ({ cls := "java/lang/Character", name := "highSurrogate", desc := "(I)C" } : Jvm.MethodName)) ∈ lw_tbl := lw_m4 (List.mem_of_getElem? (i := 134) rfl)
theorem k_855 : (Jvm.Cond.static ({ cls := "java/lang/Character", name := "highSurrogate", desc := "(I)C" } : Jvm.MethodName)) ∈ lw_tbl := lw_m4 (List.mem_of_getElem? (i := 135) rfl)
theorem k_856 : (Jvm.Cond.code ({ cls := "java/lang/Character", name := "highSurrogate", desc := "(I)C" } : Jvm.MethodName) prog_10_method_28_code (1 : Nat) (Option.some Jvm.ClassFile.FieldType.char)) ∈ lw_tbl := lw_m4 (List.mem_of_getElem? (i := 136) rfl)
theorem k_857 : (Jvm.Cond.constant "java/lang/Character" (110 : Nat) (55232 : Int32)) ∈ lw_tbl := lw_m4 (List.mem_of_getElem? (i := 137) rfl)
theorem k_858 : (Jvm.Cond.methodLink "java/lang/StringUTF16" (161 : Nat) ({ cls := "java/lang/Character", name := "lowSurrogate", desc := "(I)C" } : Jvm.MethodName)) ∈ lw_tbl := lw_m4 (List.mem_of_getElem? (i := 138) rfl)
theorem k_859 : (Jvm.Cond.static ({ cls := "java/lang/Character", name := "lowSurrogate", desc := "(I)C" } : Jvm.MethodName)) ∈ lw_tbl := lw_m4 (List.mem_of_getElem? (i := 139) rfl)
theorem k_860 : (Jvm.Cond.code ({ cls := "java/lang/Character", name := "lowSurrogate", desc := "(I)C" } : Jvm.MethodName) prog_10_method_29_code (1 : Nat) (Option.some Jvm.ClassFile.FieldType.char)) ∈ lw_tbl := lw_m4 (List.mem_of_getElem? (i := 140) rfl)
theorem k_861 : (Jvm.Cond.constant "java/lang/Character" (76 : Nat) (56320 : Int32)) ∈ lw_tbl := lw_m4 (List.mem_of_getElem? (i := 141) rfl)
theorem k_862 : (Jvm.Cond.methodLink "SignatoryLaw" (204 : Nat) ({ cls := "SignatoryLaw", name := "signTogether", desc := "(LSignatory;IIIII[J)I" } : Jvm.MethodName)) ∈ lw_tbl := lw_m4 (List.mem_of_getElem? (i := 142) rfl)
theorem k_863 : (Jvm.Cond.static ({ cls := "SignatoryLaw", name := "signTogether", desc := "(LSignatory;IIIII[J)I" } : Jvm.MethodName)) ∈ lw_tbl := lw_m4 (List.mem_of_getElem? (i := 143) rfl)
theorem k_864 : (Jvm.Cond.codeWith ({ cls := "SignatoryLaw", name := "signTogether", desc := "(LSignatory;IIIII[J)I" } : Jvm.MethodName) method_22_code (8 : Nat) (Option.some Jvm.ClassFile.FieldType.int) [((0 : Nat), (16 : Nat), (19 : Nat), (19 : Nat)), ((0 : Nat), (16 : Nat), (23 : Nat), (21 : Nat)), ((0 : Nat), (16 : Nat), (27 : Nat), (39 : Nat)), ((0 : Nat), (16 : Nat), (31 : Nat), (13 : Nat))]) ∈ lw_tbl := lw_m4 (List.mem_of_getElem? (i := 144) rfl)
theorem k_865 : (Jvm.Cond.methodLink "SignatoryLaw" (86 : Nat) ({ cls := "Signatory", name := "signTogether", desc := "(IIIII)I" } : Jvm.MethodName)) ∈ lw_tbl := lw_m4 (List.mem_of_getElem? (i := 145) rfl)
theorem k_866 : (Jvm.Cond.instanceMethod ({ cls := "Signatory", name := "signTogether", desc := "(IIIII)I" } : Jvm.MethodName)) ∈ lw_tbl := lw_m4 (List.mem_of_getElem? (i := 146) rfl)
theorem k_867 : (Jvm.Cond.selects "Signatory" ({ cls := "Signatory", name := "signTogether", desc := "(IIIII)I" } : Jvm.MethodName) ({ cls := "Signatory", name := "signTogether", desc := "(IIIII)I" } : Jvm.MethodName)) ∈ lw_tbl := lw_m4 (List.mem_of_getElem? (i := 147) rfl)
theorem k_868 : (Jvm.Cond.code ({ cls := "Signatory", name := "signTogether", desc := "(IIIII)I" } : Jvm.MethodName) prog_1_method_21_code (6 : Nat) (Option.some Jvm.ClassFile.FieldType.int)) ∈ lw_tbl := lw_m4 (List.mem_of_getElem? (i := 148) rfl)
theorem k_869 : (Jvm.Cond.methodLink "SignatoryLaw" (207 : Nat) ({ cls := "SignatoryLaw", name := "ratify", desc := "(LSignatory;II[J)I" } : Jvm.MethodName)) ∈ lw_tbl := lw_m4 (List.mem_of_getElem? (i := 149) rfl)
theorem k_870 : (Jvm.Cond.static ({ cls := "SignatoryLaw", name := "ratify", desc := "(LSignatory;II[J)I" } : Jvm.MethodName)) ∈ lw_tbl := lw_m4 (List.mem_of_getElem? (i := 150) rfl)
theorem k_871 : (Jvm.Cond.codeWith ({ cls := "SignatoryLaw", name := "ratify", desc := "(LSignatory;II[J)I" } : Jvm.MethodName) method_23_code (5 : Nat) (Option.some Jvm.ClassFile.FieldType.int) [((0 : Nat), (10 : Nat), (13 : Nat), (19 : Nat)), ((0 : Nat), (10 : Nat), (17 : Nat), (13 : Nat)), ((0 : Nat), (10 : Nat), (21 : Nat), (39 : Nat))]) ∈ lw_tbl := lw_m4 (List.mem_of_getElem? (i := 151) rfl)
theorem k_872 : (Jvm.Cond.methodLink "SignatoryLaw" (89 : Nat) ({ cls := "Signatory", name := "ratify", desc := "(II)I" } : Jvm.MethodName)) ∈ lw_tbl := lw_m4 (List.mem_of_getElem? (i := 152) rfl)
theorem k_873 : (Jvm.Cond.instanceMethod ({ cls := "Signatory", name := "ratify", desc := "(II)I" } : Jvm.MethodName)) ∈ lw_tbl := lw_m4 (List.mem_of_getElem? (i := 153) rfl)
theorem k_874 : (Jvm.Cond.selects "Signatory" ({ cls := "Signatory", name := "ratify", desc := "(II)I" } : Jvm.MethodName) ({ cls := "Signatory", name := "ratify", desc := "(II)I" } : Jvm.MethodName)) ∈ lw_tbl := lw_m4 (List.mem_of_getElem? (i := 154) rfl)
theorem k_875 : (Jvm.Cond.code ({ cls := "Signatory", name := "ratify", desc := "(II)I" } : Jvm.MethodName) prog_1_method_22_code (4 : Nat) (Option.some Jvm.ClassFile.FieldType.int)) ∈ lw_tbl := lw_m4 (List.mem_of_getElem? (i := 155) rfl)
theorem k_876 : (Jvm.Cond.methodLink "Signatory" (201 : Nat) ({ cls := "Signatory", name := "findDeed", desc := "(I)LSignatory$Deed;" } : Jvm.MethodName)) ∈ lw_tbl := lw_m4 (List.mem_of_getElem? (i := 156) rfl)
theorem k_877 : (Jvm.Cond.privateMethod ({ cls := "Signatory", name := "findDeed", desc := "(I)LSignatory$Deed;" } : Jvm.MethodName)) ∈ lw_tbl := lw_m4 (List.mem_of_getElem? (i := 157) rfl)
theorem k_878 : (Jvm.Cond.instanceMethod ({ cls := "Signatory", name := "findDeed", desc := "(I)LSignatory$Deed;" } : Jvm.MethodName)) ∈ lw_tbl := lw_m4 (List.mem_of_getElem? (i := 158) rfl)
theorem k_879 : (Jvm.Cond.code ({ cls := "Signatory", name := "findDeed", desc := "(I)LSignatory$Deed;" } : Jvm.MethodName) prog_1_method_41_code (2 : Nat) (Option.some (Jvm.ClassFile.FieldType.object "Signatory$Deed"))) ∈ lw_tbl := lw_m4 (List.mem_of_getElem? (i := 159) rfl)
theorem k_880 : (Jvm.Cond.stringRef "Signatory" (296 : Nat) "no such deed") ∈ lw_tbl := lw_m4 (List.mem_of_getElem? (i := 160) rfl)
theorem k_881 : (Jvm.Cond.methodLink "Signatory" (205 : Nat) ({ cls := "Signatory", name := "requireWaiting", desc := "(LSignatory$Deed;)V" } : Jvm.MethodName)) ∈ lw_tbl := lw_m4 (List.mem_of_getElem? (i := 161) rfl)
theorem k_882 : (Jvm.Cond.static ({ cls := "Signatory", name := "requireWaiting", desc := "(LSignatory$Deed;)V" } : Jvm.MethodName)) ∈ lw_tbl := lw_m4 (List.mem_of_getElem? (i := 162) rfl)
theorem k_883 : (Jvm.Cond.code ({ cls := "Signatory", name := "requireWaiting", desc := "(LSignatory$Deed;)V" } : Jvm.MethodName) prog_1_method_50_code (1 : Nat) (Option.none : Option Jvm.ClassFile.FieldType)) ∈ lw_tbl := lw_m4 (List.mem_of_getElem? (i := 163) rfl)
theorem k_884 : (Jvm.Cond.stringRef "Signatory" (319 : Nat) "the deed does not wait") ∈ lw_tbl := lw_m4 (List.mem_of_getElem? (i := 164) rfl)
theorem k_885 : (Jvm.Cond.stringRef "Signatory" (213 : Nat) "the person cannot sign the sum alone today") ∈ lw_tbl := lw_m4 (List.mem_of_getElem? (i := 165) rfl)
theorem k_886 : (Jvm.Cond.methodLink "SignatoryLaw" (210 : Nat) ({ cls := "SignatoryLaw", name := "annul", desc := "(LSignatory;I[J)I" } : Jvm.MethodName)) ∈ lw_tbl := lw_m4 (List.mem_of_getElem? (i := 166) rfl)
theorem k_887 : (Jvm.Cond.static ({ cls := "SignatoryLaw", name := "annul", desc := "(LSignatory;I[J)I" } : Jvm.MethodName)) ∈ lw_tbl := lw_m4 (List.mem_of_getElem? (i := 167) rfl)
theorem k_888 : (Jvm.Cond.codeWith ({ cls := "SignatoryLaw", name := "annul", desc := "(LSignatory;I[J)I" } : Jvm.MethodName) method_24_code (4 : Nat) (Option.some Jvm.ClassFile.FieldType.int) [((0 : Nat), (9 : Nat), (12 : Nat), (19 : Nat)), ((0 : Nat), (9 : Nat), (15 : Nat), (13 : Nat))]) ∈ lw_tbl := lw_m4 (List.mem_of_getElem? (i := 168) rfl)
theorem k_889 : (Jvm.Cond.methodLink "SignatoryLaw" (92 : Nat) ({ cls := "Signatory", name := "annul", desc := "(I)I" } : Jvm.MethodName)) ∈ lw_tbl := lw_m4 (List.mem_of_getElem? (i := 169) rfl)
theorem k_890 : (Jvm.Cond.instanceMethod ({ cls := "Signatory", name := "annul", desc := "(I)I" } : Jvm.MethodName)) ∈ lw_tbl := lw_m4 (List.mem_of_getElem? (i := 170) rfl)
theorem k_891 : (Jvm.Cond.selects "Signatory" ({ cls := "Signatory", name := "annul", desc := "(I)I" } : Jvm.MethodName) ({ cls := "Signatory", name := "annul", desc := "(I)I" } : Jvm.MethodName)) ∈ lw_tbl := lw_m4 (List.mem_of_getElem? (i := 171) rfl)
theorem k_892 : (Jvm.Cond.code ({ cls := "Signatory", name := "annul", desc := "(I)I" } : Jvm.MethodName) prog_1_method_23_code (3 : Nat) (Option.some Jvm.ClassFile.FieldType.int)) ∈ lw_tbl := lw_m4 (List.mem_of_getElem? (i := 172) rfl)
theorem k_893 : (Jvm.Cond.methodLink "Signatory" (231 : Nat) ({ cls := "Signatory", name := "countWaiting", desc := "()I" } : Jvm.MethodName)) ∈ lw_tbl := lw_m4 (List.mem_of_getElem? (i := 173) rfl)
theorem k_894 : (Jvm.Cond.privateMethod ({ cls := "Signatory", name := "countWaiting", desc := "()I" } : Jvm.MethodName)) ∈ lw_tbl := lw_m4 (List.mem_of_getElem? (i := 174) rfl)
theorem k_895 : (Jvm.Cond.instanceMethod ({ cls := "Signatory", name := "countWaiting", desc := "()I" } : Jvm.MethodName)) ∈ lw_tbl := lw_m4 (List.mem_of_getElem? (i := 175) rfl)
theorem k_896 : (Jvm.Cond.code ({ cls := "Signatory", name := "countWaiting", desc := "()I" } : Jvm.MethodName) prog_1_method_69_code (3 : Nat) (Option.some Jvm.ClassFile.FieldType.int)) ∈ lw_tbl := lw_m4 (List.mem_of_getElem? (i := 176) rfl)
theorem k_897 : (Jvm.Cond.methodLink "SignatoryLaw" (213 : Nat) ({ cls := "SignatoryLaw", name := "status", desc := "(LSignatory;I[J)I" } : Jvm.MethodName)) ∈ lw_tbl := lw_m4 (List.mem_of_getElem? (i := 177) rfl)
theorem k_898 : (Jvm.Cond.static ({ cls := "SignatoryLaw", name := "status", desc := "(LSignatory;I[J)I" } : Jvm.MethodName)) ∈ lw_tbl := lw_m4 (List.mem_of_getElem? (i := 178) rfl)
theorem k_899 : (Jvm.Cond.codeWith ({ cls := "SignatoryLaw", name := "status", desc := "(LSignatory;I[J)I" } : Jvm.MethodName) method_25_code (4 : Nat) (Option.some Jvm.ClassFile.FieldType.int) [((0 : Nat), (9 : Nat), (12 : Nat), (19 : Nat))]) ∈ lw_tbl := lw_m4 (List.mem_of_getElem? (i := 179) rfl)
theorem k_900 : (Jvm.Cond.methodLink "SignatoryLaw" (95 : Nat) ({ cls := "Signatory", name := "status", desc := "(I)C" } : Jvm.MethodName)) ∈ lw_tbl := lw_m4 (List.mem_of_getElem? (i := 180) rfl)
theorem k_901 : (Jvm.Cond.instanceMethod ({ cls := "Signatory", name := "status", desc := "(I)C" } : Jvm.MethodName)) ∈ lw_tbl := lw_m4 (List.mem_of_getElem? (i := 181) rfl)
theorem k_902 : (Jvm.Cond.selects "Signatory" ({ cls := "Signatory", name := "status", desc := "(I)C" } : Jvm.MethodName) ({ cls := "Signatory", name := "status", desc := "(I)C" } : Jvm.MethodName)) ∈ lw_tbl := lw_m4 (List.mem_of_getElem? (i := 182) rfl)
theorem k_903 : (Jvm.Cond.code ({ cls := "Signatory", name := "status", desc := "(I)C" } : Jvm.MethodName) prog_1_method_24_code (2 : Nat) (Option.some Jvm.ClassFile.FieldType.char)) ∈ lw_tbl := lw_m4 (List.mem_of_getElem? (i := 183) rfl)
theorem k_904 : (Jvm.Cond.methodLink "SignatoryLaw" (216 : Nat) ({ cls := "SignatoryLaw", name := "sum", desc := "(LSignatory;I[J)I" } : Jvm.MethodName)) ∈ lw_tbl := lw_m4 (List.mem_of_getElem? (i := 184) rfl)
theorem k_905 : (Jvm.Cond.static ({ cls := "SignatoryLaw", name := "sum", desc := "(LSignatory;I[J)I" } : Jvm.MethodName)) ∈ lw_tbl := lw_m4 (List.mem_of_getElem? (i := 185) rfl)
theorem k_906 : (Jvm.Cond.codeWith ({ cls := "SignatoryLaw", name := "sum", desc := "(LSignatory;I[J)I" } : Jvm.MethodName) method_26_code (4 : Nat) (Option.some Jvm.ClassFile.FieldType.int) [((0 : Nat), (9 : Nat), (12 : Nat), (19 : Nat))]) ∈ lw_tbl := lw_m4 (List.mem_of_getElem? (i := 186) rfl)
theorem k_907 : (Jvm.Cond.methodLink "SignatoryLaw" (99 : Nat) ({ cls := "Signatory", name := "sum", desc := "(I)I" } : Jvm.MethodName)) ∈ lw_tbl := lw_m4 (List.mem_of_getElem? (i := 187) rfl)
theorem k_908 : (Jvm.Cond.instanceMethod ({ cls := "Signatory", name := "sum", desc := "(I)I" } : Jvm.MethodName)) ∈ lw_tbl := lw_m4 (List.mem_of_getElem? (i := 188) rfl)
theorem k_909 : (Jvm.Cond.selects "Signatory" ({ cls := "Signatory", name := "sum", desc := "(I)I" } : Jvm.MethodName) ({ cls := "Signatory", name := "sum", desc := "(I)I" } : Jvm.MethodName)) ∈ lw_tbl := lw_m4 (List.mem_of_getElem? (i := 189) rfl)
theorem k_910 : (Jvm.Cond.code ({ cls := "Signatory", name := "sum", desc := "(I)I" } : Jvm.MethodName) prog_1_method_25_code (2 : Nat) (Option.some Jvm.ClassFile.FieldType.int)) ∈ lw_tbl := lw_m4 (List.mem_of_getElem? (i := 190) rfl)
theorem k_911 : (Jvm.Cond.methodLink "SignatoryLaw" (219 : Nat) ({ cls := "SignatoryLaw", name := "sumByPapers", desc := "(LSignatory;I[J)I" } : Jvm.MethodName)) ∈ lw_tbl := lw_m4 (List.mem_of_getElem? (i := 191) rfl)
theorem k_912 : (Jvm.Cond.static ({ cls := "SignatoryLaw", name := "sumByPapers", desc := "(LSignatory;I[J)I" } : Jvm.MethodName)) ∈ lw_tbl := lw_m4 (List.mem_of_getElem? (i := 192) rfl)
theorem k_913 : (Jvm.Cond.codeWith ({ cls := "SignatoryLaw", name := "sumByPapers", desc := "(LSignatory;I[J)I" } : Jvm.MethodName) method_27_code (4 : Nat) (Option.some Jvm.ClassFile.FieldType.int) [((0 : Nat), (9 : Nat), (12 : Nat), (19 : Nat))]) ∈ lw_tbl := lw_m4 (List.mem_of_getElem? (i := 193) rfl)
theorem k_914 : (Jvm.Cond.methodLink "SignatoryLaw" (102 : Nat) ({ cls := "Signatory", name := "sumByPapers", desc := "(I)I" } : Jvm.MethodName)) ∈ lw_tbl := lw_m4 (List.mem_of_getElem? (i := 194) rfl)
theorem k_915 : (Jvm.Cond.instanceMethod ({ cls := "Signatory", name := "sumByPapers", desc := "(I)I" } : Jvm.MethodName)) ∈ lw_tbl := lw_m4 (List.mem_of_getElem? (i := 195) rfl)
theorem k_916 : (Jvm.Cond.selects "Signatory" ({ cls := "Signatory", name := "sumByPapers", desc := "(I)I" } : Jvm.MethodName) ({ cls := "Signatory", name := "sumByPapers", desc := "(I)I" } : Jvm.MethodName)) ∈ lw_tbl := lw_m4 (List.mem_of_getElem? (i := 196) rfl)
theorem k_917 : (Jvm.Cond.code ({ cls := "Signatory", name := "sumByPapers", desc := "(I)I" } : Jvm.MethodName) prog_1_method_26_code (3 : Nat) (Option.some Jvm.ClassFile.FieldType.int)) ∈ lw_tbl := lw_m4 (List.mem_of_getElem? (i := 197) rfl)
theorem k_918 : (Jvm.Cond.methodLink "Signatory" (240 : Nat) ({ cls := "Signatory", name := "lookBack", desc := "(II)V" } : Jvm.MethodName)) ∈ lw_tbl := lw_m4 (List.mem_of_getElem? (i := 198) rfl)
theorem k_919 : (Jvm.Cond.privateMethod ({ cls := "Signatory", name := "lookBack", desc := "(II)V" } : Jvm.MethodName)) ∈ lw_tbl := lw_m4 (List.mem_of_getElem? (i := 199) rfl)
theorem k_920 : (Jvm.Cond.instanceMethod ({ cls := "Signatory", name := "lookBack", desc := "(II)V" } : Jvm.MethodName)) ∈ lw_tbl := lw_m4 (List.mem_of_getElem? (i := 200) rfl)
theorem k_921 : (Jvm.Cond.code ({ cls := "Signatory", name := "lookBack", desc := "(II)V" } : Jvm.MethodName) prog_1_method_53_code (4 : Nat) (Option.none : Option Jvm.ClassFile.FieldType)) ∈ lw_tbl := lw_m4 (List.mem_of_getElem? (i := 201) rfl)
theorem k_922 : (Jvm.Cond.methodLink "Signatory" (335 : Nat) ({ cls := "Signatory$Moment", name := "forget", desc := "()V" } : Jvm.MethodName)) ∈ lw_tbl := lw_m4 (List.mem_of_getElem? (i := 202) rfl)
theorem k_923 : (Jvm.Cond.methodLink "SignatoryLaw" (222 : Nat) ({ cls := "SignatoryLaw", name := "stands", desc := "(LSignatory;I[J)I" } : Jvm.MethodName)) ∈ lw_tbl := lw_m4 (List.mem_of_getElem? (i := 203) rfl)
theorem k_924 : (Jvm.Cond.static ({ cls := "SignatoryLaw", name := "stands", desc := "(LSignatory;I[J)I" } : Jvm.MethodName)) ∈ lw_tbl := lw_m4 (List.mem_of_getElem? (i := 204) rfl)
theorem k_925 : (Jvm.Cond.codeWith ({ cls := "SignatoryLaw", name := "stands", desc := "(LSignatory;I[J)I" } : Jvm.MethodName) method_28_code (4 : Nat) (Option.some Jvm.ClassFile.FieldType.int) [((0 : Nat), (16 : Nat), (19 : Nat), (19 : Nat))]) ∈ lw_tbl := lw_m4 (List.mem_of_getElem? (i := 205) rfl)
theorem k_926 : (Jvm.Cond.methodLink "SignatoryLaw" (105 : Nat) ({ cls := "Signatory", name := "stands", desc := "(I)Z" } : Jvm.MethodName)) ∈ lw_tbl := lw_m4 (List.mem_of_getElem? (i := 206) rfl)
theorem k_927 : (Jvm.Cond.instanceMethod ({ cls := "Signatory", name := "stands", desc := "(I)Z" } : Jvm.MethodName)) ∈ lw_tbl := lw_m4 (List.mem_of_getElem? (i := 207) rfl)
theorem k_928 : (Jvm.Cond.selects "Signatory" ({ cls := "Signatory", name := "stands", desc := "(I)Z" } : Jvm.MethodName) ({ cls := "Signatory", name := "stands", desc := "(I)Z" } : Jvm.MethodName)) ∈ lw_tbl := lw_m4 (List.mem_of_getElem? (i := 208) rfl)
theorem k_929 : (Jvm.Cond.code ({ cls := "Signatory", name := "stands", desc := "(I)Z" } : Jvm.MethodName) prog_1_method_27_code (2 : Nat) (Option.some Jvm.ClassFile.FieldType.boolean)) ∈ lw_tbl := lw_m4 (List.mem_of_getElem? (i := 209) rfl)
theorem k_930 : (Jvm.Cond.methodLink "SignatoryLaw" (225 : Nat) ({ cls := "SignatoryLaw", name := "standsByPapers", desc := "(LSignatory;I[J)I" } : Jvm.MethodName)) ∈ lw_tbl := lw_m4 (List.mem_of_getElem? (i := 210) rfl)
theorem k_931 : (Jvm.Cond.static ({ cls := "SignatoryLaw", name := "standsByPapers", desc := "(LSignatory;I[J)I" } : Jvm.MethodName)) ∈ lw_tbl := lw_m4 (List.mem_of_getElem? (i := 211) rfl)
theorem k_932 : (Jvm.Cond.codeWith ({ cls := "SignatoryLaw", name := "standsByPapers", desc := "(LSignatory;I[J)I" } : Jvm.MethodName) method_29_code (4 : Nat) (Option.some Jvm.ClassFile.FieldType.int) [((0 : Nat), (16 : Nat), (19 : Nat), (19 : Nat))]) ∈ lw_tbl := lw_m4 (List.mem_of_getElem? (i := 212) rfl)
theorem k_933 : (Jvm.Cond.methodLink "SignatoryLaw" (109 : Nat) ({ cls := "Signatory", name := "standsByPapers", desc := "(I)Z" } : Jvm.MethodName)) ∈ lw_tbl := lw_m4 (List.mem_of_getElem? (i := 213) rfl)
theorem k_934 : (Jvm.Cond.instanceMethod ({ cls := "Signatory", name := "standsByPapers", desc := "(I)Z" } : Jvm.MethodName)) ∈ lw_tbl := lw_m4 (List.mem_of_getElem? (i := 214) rfl)
theorem k_935 : (Jvm.Cond.selects "Signatory" ({ cls := "Signatory", name := "standsByPapers", desc := "(I)Z" } : Jvm.MethodName) ({ cls := "Signatory", name := "standsByPapers", desc := "(I)Z" } : Jvm.MethodName)) ∈ lw_tbl := lw_m4 (List.mem_of_getElem? (i := 215) rfl)
theorem k_936 : (Jvm.Cond.code ({ cls := "Signatory", name := "standsByPapers", desc := "(I)Z" } : Jvm.MethodName) prog_1_method_28_code (4 : Nat) (Option.some Jvm.ClassFile.FieldType.boolean)) ∈ lw_tbl := lw_m4 (List.mem_of_getElem? (i := 216) rfl)
theorem k_937 : (Jvm.Cond.methodLink "SignatoryLaw" (228 : Nat) ({ cls := "SignatoryLaw", name := "lack", desc := "(LSignatory;I[J)I" } : Jvm.MethodName)) ∈ lw_tbl := lw_m4 (List.mem_of_getElem? (i := 217) rfl)
theorem k_938 : (Jvm.Cond.static ({ cls := "SignatoryLaw", name := "lack", desc := "(LSignatory;I[J)I" } : Jvm.MethodName)) ∈ lw_tbl := lw_m4 (List.mem_of_getElem? (i := 218) rfl)
theorem k_939 : (Jvm.Cond.codeWith ({ cls := "SignatoryLaw", name := "lack", desc := "(LSignatory;I[J)I" } : Jvm.MethodName) method_30_code (4 : Nat) (Option.some Jvm.ClassFile.FieldType.int) [((0 : Nat), (9 : Nat), (12 : Nat), (19 : Nat)), ((0 : Nat), (9 : Nat), (15 : Nat), (60 : Nat))]) ∈ lw_tbl := lw_m4 (List.mem_of_getElem? (i := 219) rfl)
theorem k_940 : (Jvm.Cond.methodLink "SignatoryLaw" (112 : Nat) ({ cls := "Signatory", name := "lack", desc := "(I)C" } : Jvm.MethodName)) ∈ lw_tbl := lw_m4 (List.mem_of_getElem? (i := 220) rfl)
theorem k_941 : (Jvm.Cond.instanceMethod ({ cls := "Signatory", name := "lack", desc := "(I)C" } : Jvm.MethodName)) ∈ lw_tbl := lw_m4 (List.mem_of_getElem? (i := 221) rfl)
theorem k_942 : (Jvm.Cond.selects "Signatory" ({ cls := "Signatory", name := "lack", desc := "(I)C" } : Jvm.MethodName) ({ cls := "Signatory", name := "lack", desc := "(I)C" } : Jvm.MethodName)) ∈ lw_tbl := lw_m4 (List.mem_of_getElem? (i := 222) rfl)
theorem k_943 : (Jvm.Cond.code ({ cls := "Signatory", name := "lack", desc := "(I)C" } : Jvm.MethodName) prog_1_method_29_code (3 : Nat) (Option.some Jvm.ClassFile.FieldType.char)) ∈ lw_tbl := lw_m4 (List.mem_of_getElem? (i := 223) rfl)
theorem k_944 : (Jvm.Cond.stringRef "Signatory" (258 : Nat) "the deed stood when it was signed") ∈ lw_tbl := lw_m4 (List.mem_of_getElem? (i := 224) rfl)
theorem k_945 : (Jvm.Cond.methodLink "SignatoryLaw" (231 : Nat) ({ cls := "SignatoryLaw", name := "lackPower", desc := "(LSignatory;I[J)I" } : Jvm.MethodName)) ∈ lw_tbl := lw_m4 (List.mem_of_getElem? (i := 225) rfl)
theorem k_946 : (Jvm.Cond.static ({ cls := "SignatoryLaw", name := "lackPower", desc := "(LSignatory;I[J)I" } : Jvm.MethodName)) ∈ lw_tbl := lw_m4 (List.mem_of_getElem? (i := 226) rfl)
theorem k_947 : (Jvm.Cond.codeWith ({ cls := "SignatoryLaw", name := "lackPower", desc := "(LSignatory;I[J)I" } : Jvm.MethodName) method_31_code (4 : Nat) (Option.some Jvm.ClassFile.FieldType.int) [((0 : Nat), (9 : Nat), (12 : Nat), (19 : Nat)), ((0 : Nat), (9 : Nat), (15 : Nat), (60 : Nat))]) ∈ lw_tbl := lw_m4 (List.mem_of_getElem? (i := 227) rfl)
theorem k_948 : (Jvm.Cond.methodLink "SignatoryLaw" (115 : Nat) ({ cls := "Signatory", name := "lackPower", desc := "(I)I" } : Jvm.MethodName)) ∈ lw_tbl := lw_m4 (List.mem_of_getElem? (i := 228) rfl)
theorem k_949 : (Jvm.Cond.instanceMethod ({ cls := "Signatory", name := "lackPower", desc := "(I)I" } : Jvm.MethodName)) ∈ lw_tbl := lw_m4 (List.mem_of_getElem? (i := 229) rfl)
theorem k_950 : (Jvm.Cond.selects "Signatory" ({ cls := "Signatory", name := "lackPower", desc := "(I)I" } : Jvm.MethodName) ({ cls := "Signatory", name := "lackPower", desc := "(I)I" } : Jvm.MethodName)) ∈ lw_tbl := lw_m4 (List.mem_of_getElem? (i := 230) rfl)
theorem k_951 : (Jvm.Cond.code ({ cls := "Signatory", name := "lackPower", desc := "(I)I" } : Jvm.MethodName) prog_1_method_30_code (3 : Nat) (Option.some Jvm.ClassFile.FieldType.int)) ∈ lw_tbl := lw_m4 (List.mem_of_getElem? (i := 231) rfl)
theorem k_952 : (Jvm.Cond.methodLink "Signatory" (260 : Nat) ({ cls := "Signatory", name := "requireLackingPower", desc := "(LSignatory$Deed;)V" } : Jvm.MethodName)) ∈ lw_tbl := lw_m4 (List.mem_of_getElem? (i := 232) rfl)
theorem k_953 : (Jvm.Cond.static ({ cls := "Signatory", name := "requireLackingPower", desc := "(LSignatory$Deed;)V" } : Jvm.MethodName)) ∈ lw_tbl := lw_m4 (List.mem_of_getElem? (i := 233) rfl)
theorem k_954 : (Jvm.Cond.code ({ cls := "Signatory", name := "requireLackingPower", desc := "(LSignatory$Deed;)V" } : Jvm.MethodName) prog_1_method_51_code (1 : Nat) (Option.none : Option Jvm.ClassFile.FieldType)) ∈ lw_tbl := lw_m4 (List.mem_of_getElem? (i := 234) rfl)
theorem k_955 : (Jvm.Cond.stringRef "Signatory" (321 : Nat) "the deed has no power of the lack") ∈ lw_tbl := lw_m4 (List.mem_of_getElem? (i := 235) rfl)
theorem k_956 : (Jvm.Cond.methodLink "SignatoryLaw" (234 : Nat) ({ cls := "SignatoryLaw", name := "lackDepth", desc := "(LSignatory;I[J)I" } : Jvm.MethodName)) ∈ lw_tbl := lw_m4 (List.mem_of_getElem? (i := 236) rfl)
theorem k_957 : (Jvm.Cond.static ({ cls := "SignatoryLaw", name := "lackDepth", desc := "(LSignatory;I[J)I" } : Jvm.MethodName)) ∈ lw_tbl := lw_m4 (List.mem_of_getElem? (i := 237) rfl)
theorem k_958 : (Jvm.Cond.codeWith ({ cls := "SignatoryLaw", name := "lackDepth", desc := "(LSignatory;I[J)I" } : Jvm.MethodName) method_32_code (4 : Nat) (Option.some Jvm.ClassFile.FieldType.int) [((0 : Nat), (9 : Nat), (12 : Nat), (19 : Nat)), ((0 : Nat), (9 : Nat), (15 : Nat), (60 : Nat))]) ∈ lw_tbl := lw_m4 (List.mem_of_getElem? (i := 238) rfl)
theorem k_959 : (Jvm.Cond.methodLink "SignatoryLaw" (118 : Nat) ({ cls := "Signatory", name := "lackDepth", desc := "(I)I" } : Jvm.MethodName)) ∈ lw_tbl := lw_m4 (List.mem_of_getElem? (i := 239) rfl)
theorem k_960 : (Jvm.Cond.instanceMethod ({ cls := "Signatory", name := "lackDepth", desc := "(I)I" } : Jvm.MethodName)) ∈ lw_tbl := lw_m5 (List.mem_of_getElem? (i := 0) rfl)
theorem k_961 : (Jvm.Cond.selects "Signatory" ({ cls := "Signatory", name := "lackDepth", desc := "(I)I" } : Jvm.MethodName) ({ cls := "Signatory", name := "lackDepth", desc := "(I)I" } : Jvm.MethodName)) ∈ lw_tbl := lw_m5 (List.mem_of_getElem? (i := 1) rfl)
theorem k_962 : (Jvm.Cond.code ({ cls := "Signatory", name := "lackDepth", desc := "(I)I" } : Jvm.MethodName) prog_1_method_31_code (3 : Nat) (Option.some Jvm.ClassFile.FieldType.int)) ∈ lw_tbl := lw_m5 (List.mem_of_getElem? (i := 2) rfl)
theorem k_963 : (Jvm.Cond.methodLink "SignatoryLaw" (237 : Nat) ({ cls := "SignatoryLaw", name := "setWindow", desc := "(LSignatory;I[J)I" } : Jvm.MethodName)) ∈ lw_tbl := lw_m5 (List.mem_of_getElem? (i := 3) rfl)
theorem k_964 : (Jvm.Cond.static ({ cls := "SignatoryLaw", name := "setWindow", desc := "(LSignatory;I[J)I" } : Jvm.MethodName)) ∈ lw_tbl := lw_m5 (List.mem_of_getElem? (i := 4) rfl)
theorem k_965 : (Jvm.Cond.codeWith ({ cls := "SignatoryLaw", name := "setWindow", desc := "(LSignatory;I[J)I" } : Jvm.MethodName) method_33_code (4 : Nat) (Option.some Jvm.ClassFile.FieldType.int) [((0 : Nat), (9 : Nat), (12 : Nat), (21 : Nat))]) ∈ lw_tbl := lw_m5 (List.mem_of_getElem? (i := 5) rfl)
theorem k_966 : (Jvm.Cond.methodLink "SignatoryLaw" (121 : Nat) ({ cls := "Signatory", name := "setWindow", desc := "(I)I" } : Jvm.MethodName)) ∈ lw_tbl := lw_m5 (List.mem_of_getElem? (i := 6) rfl)
theorem k_967 : (Jvm.Cond.instanceMethod ({ cls := "Signatory", name := "setWindow", desc := "(I)I" } : Jvm.MethodName)) ∈ lw_tbl := lw_m5 (List.mem_of_getElem? (i := 7) rfl)
theorem k_968 : (Jvm.Cond.selects "Signatory" ({ cls := "Signatory", name := "setWindow", desc := "(I)I" } : Jvm.MethodName) ({ cls := "Signatory", name := "setWindow", desc := "(I)I" } : Jvm.MethodName)) ∈ lw_tbl := lw_m5 (List.mem_of_getElem? (i := 8) rfl)
theorem k_969 : (Jvm.Cond.code ({ cls := "Signatory", name := "setWindow", desc := "(I)I" } : Jvm.MethodName) prog_1_method_32_code (3 : Nat) (Option.some Jvm.ClassFile.FieldType.int)) ∈ lw_tbl := lw_m5 (List.mem_of_getElem? (i := 9) rfl)
theorem k_970 : (Jvm.Cond.methodLink "Signatory" (269 : Nat) ({ cls := "Signatory", name := "requireDayCount", desc := "(I)V" } : Jvm.MethodName)) ∈ lw_tbl := lw_m5 (List.mem_of_getElem? (i := 10) rfl)
theorem k_971 : (Jvm.Cond.static ({ cls := "Signatory", name := "requireDayCount", desc := "(I)V" } : Jvm.MethodName)) ∈ lw_tbl := lw_m5 (List.mem_of_getElem? (i := 11) rfl)
theorem k_972 : (Jvm.Cond.code ({ cls := "Signatory", name := "requireDayCount", desc := "(I)V" } : Jvm.MethodName) prog_1_method_46_code (1 : Nat) (Option.none : Option Jvm.ClassFile.FieldType)) ∈ lw_tbl := lw_m5 (List.mem_of_getElem? (i := 12) rfl)
theorem k_973 : (Jvm.Cond.stringRef "Signatory" (311 : Nat) "the number of days is not between 1 and 99") ∈ lw_tbl := lw_m5 (List.mem_of_getElem? (i := 13) rfl)
theorem k_974 : (Jvm.Cond.methodLink "SignatoryLaw" (240 : Nat) ({ cls := "SignatoryLaw", name := "pass", desc := "(LSignatory;I[J)I" } : Jvm.MethodName)) ∈ lw_tbl := lw_m5 (List.mem_of_getElem? (i := 14) rfl)
theorem k_975 : (Jvm.Cond.static ({ cls := "SignatoryLaw", name := "pass", desc := "(LSignatory;I[J)I" } : Jvm.MethodName)) ∈ lw_tbl := lw_m5 (List.mem_of_getElem? (i := 15) rfl)
theorem k_976 : (Jvm.Cond.codeWith ({ cls := "SignatoryLaw", name := "pass", desc := "(LSignatory;I[J)I" } : Jvm.MethodName) method_34_code (4 : Nat) (Option.some Jvm.ClassFile.FieldType.int) [((0 : Nat), (9 : Nat), (12 : Nat), (21 : Nat))]) ∈ lw_tbl := lw_m5 (List.mem_of_getElem? (i := 16) rfl)
theorem k_977 : (Jvm.Cond.methodLink "SignatoryLaw" (124 : Nat) ({ cls := "Signatory", name := "pass", desc := "(I)I" } : Jvm.MethodName)) ∈ lw_tbl := lw_m5 (List.mem_of_getElem? (i := 17) rfl)
theorem k_978 : (Jvm.Cond.instanceMethod ({ cls := "Signatory", name := "pass", desc := "(I)I" } : Jvm.MethodName)) ∈ lw_tbl := lw_m5 (List.mem_of_getElem? (i := 18) rfl)
theorem k_979 : (Jvm.Cond.selects "Signatory" ({ cls := "Signatory", name := "pass", desc := "(I)I" } : Jvm.MethodName) ({ cls := "Signatory", name := "pass", desc := "(I)I" } : Jvm.MethodName)) ∈ lw_tbl := lw_m5 (List.mem_of_getElem? (i := 19) rfl)
theorem k_980 : (Jvm.Cond.code ({ cls := "Signatory", name := "pass", desc := "(I)I" } : Jvm.MethodName) prog_1_method_33_code (2 : Nat) (Option.some Jvm.ClassFile.FieldType.int)) ∈ lw_tbl := lw_m5 (List.mem_of_getElem? (i := 20) rfl)
theorem k_981 : (Jvm.Cond.stringRef "Signatory" (275 : Nat) "today would be behind 999") ∈ lw_tbl := lw_m5 (List.mem_of_getElem? (i := 21) rfl)
theorem k_982 : (Jvm.Cond.methodLink "SignatoryLaw" (252 : Nat) ({ cls := "SignatoryLaw", name := "standingShare", desc := "(LSignatory;[D)I" } : Jvm.MethodName)) ∈ lw_tbl := lw_m5 (List.mem_of_getElem? (i := 22) rfl)
theorem k_983 : (Jvm.Cond.static ({ cls := "SignatoryLaw", name := "standingShare", desc := "(LSignatory;[D)I" } : Jvm.MethodName)) ∈ lw_tbl := lw_m5 (List.mem_of_getElem? (i := 23) rfl)
theorem k_984 : (Jvm.Cond.codeWith ({ cls := "SignatoryLaw", name := "standingShare", desc := "(LSignatory;[D)I" } : Jvm.MethodName) method_35_code (3 : Nat) (Option.some Jvm.ClassFile.FieldType.int) [((0 : Nat), (8 : Nat), (11 : Nat), (60 : Nat))]) ∈ lw_tbl := lw_m5 (List.mem_of_getElem? (i := 24) rfl)
theorem k_985 : (Jvm.Cond.methodLink "SignatoryLaw" (127 : Nat) ({ cls := "Signatory", name := "standingShare", desc := "()F" } : Jvm.MethodName)) ∈ lw_tbl := lw_m5 (List.mem_of_getElem? (i := 25) rfl)
theorem k_986 : (Jvm.Cond.instanceMethod ({ cls := "Signatory", name := "standingShare", desc := "()F" } : Jvm.MethodName)) ∈ lw_tbl := lw_m5 (List.mem_of_getElem? (i := 26) rfl)
theorem k_987 : (Jvm.Cond.selects "Signatory" ({ cls := "Signatory", name := "standingShare", desc := "()F" } : Jvm.MethodName) ({ cls := "Signatory", name := "standingShare", desc := "()F" } : Jvm.MethodName)) ∈ lw_tbl := lw_m5 (List.mem_of_getElem? (i := 27) rfl)
theorem k_988 : (Jvm.Cond.code ({ cls := "Signatory", name := "standingShare", desc := "()F" } : Jvm.MethodName) prog_1_method_36_code (4 : Nat) (Option.some Jvm.ClassFile.FieldType.float)) ∈ lw_tbl := lw_m5 (List.mem_of_getElem? (i := 28) rfl)
theorem k_989 : (Jvm.Cond.stringRef "Signatory" (284 : Nat) "there is no deed") ∈ lw_tbl := lw_m5 (List.mem_of_getElem? (i := 29) rfl)
theorem k_990 : (Jvm.Cond.classLink "SignatoryLaw" (132 : Nat) "SignatoryModel") ∈ lw_tbl := lw_m5 (List.mem_of_getElem? (i := 30) rfl)
theorem k_991 : (Jvm.Cond.instantiable "SignatoryModel" (26 : Nat)) ∈ lw_tbl := lw_m5 (List.mem_of_getElem? (i := 31) rfl)
theorem k_992 : (Jvm.Cond.methodLink "SignatoryLaw" (134 : Nat) ({ cls := "SignatoryModel", name := "<init>", desc := "()V" } : Jvm.MethodName)) ∈ lw_tbl := lw_m5 (List.mem_of_getElem? (i := 32) rfl)
theorem k_993 : (Jvm.Cond.instanceMethod ({ cls := "SignatoryModel", name := "<init>", desc := "()V" } : Jvm.MethodName)) ∈ lw_tbl := lw_m5 (List.mem_of_getElem? (i := 33) rfl)
theorem k_994 : (Jvm.Cond.code ({ cls := "SignatoryModel", name := "<init>", desc := "()V" } : Jvm.MethodName) prog_7_method_1_code (1 : Nat) (Option.none : Option Jvm.ClassFile.FieldType)) ∈ lw_tbl := lw_m5 (List.mem_of_getElem? (i := 34) rfl)
theorem k_995 : (Jvm.Cond.methodLink "SignatoryModel" (1 : Nat) ({ cls := "java/lang/Object", name := "<init>", desc := "()V" } : Jvm.MethodName)) ∈ lw_tbl := lw_m5 (List.mem_of_getElem? (i := 35) rfl)
theorem k_996 : (Jvm.Cond.fieldLink "SignatoryModel" (9 : Nat) "SignatoryModel" "isAbsent" "[Z") ∈ lw_tbl := lw_m5 (List.mem_of_getElem? (i := 36) rfl)
theorem k_997 : (Jvm.Cond.fieldLink "SignatoryModel" (13 : Nat) "SignatoryModel" "isRevoked" "[Z") ∈ lw_tbl := lw_m5 (List.mem_of_getElem? (i := 37) rfl)
theorem k_998 : (Jvm.Cond.fieldLink "SignatoryModel" (16 : Nat) "SignatoryModel" "substitute" "[I") ∈ lw_tbl := lw_m5 (List.mem_of_getElem? (i := 38) rfl)
theorem k_999 : (Jvm.Cond.fieldLink "SignatoryModel" (20 : Nat) "SignatoryModel" "holder" "[I") ∈ lw_tbl := lw_m5 (List.mem_of_getElem? (i := 39) rfl)
theorem k_1000 : (Jvm.Cond.fieldLink "SignatoryModel" (23 : Nat) "SignatoryModel" "kind" "[I") ∈ lw_tbl := lw_m5 (List.mem_of_getElem? (i := 40) rfl)
theorem k_1001 : (Jvm.Cond.fieldLink "SignatoryModel" (26 : Nat) "SignatoryModel" "limit" "[I") ∈ lw_tbl := lw_m5 (List.mem_of_getElem? (i := 41) rfl)
theorem k_1002 : (Jvm.Cond.fieldLink "SignatoryModel" (29 : Nat) "SignatoryModel" "first" "[I") ∈ lw_tbl := lw_m5 (List.mem_of_getElem? (i := 42) rfl)
theorem k_1003 : (Jvm.Cond.fieldLink "SignatoryModel" (32 : Nat) "SignatoryModel" "last" "[I") ∈ lw_tbl := lw_m5 (List.mem_of_getElem? (i := 43) rfl)
theorem k_1004 : (Jvm.Cond.fieldLink "SignatoryModel" (35 : Nat) "SignatoryModel" "source" "[I") ∈ lw_tbl := lw_m5 (List.mem_of_getElem? (i := 44) rfl)
theorem k_1005 : (Jvm.Cond.fieldLink "SignatoryModel" (38 : Nat) "SignatoryModel" "hand" "[C") ∈ lw_tbl := lw_m5 (List.mem_of_getElem? (i := 45) rfl)
theorem k_1006 : (Jvm.Cond.fieldLink "SignatoryModel" (42 : Nat) "SignatoryModel" "deedKind" "[I") ∈ lw_tbl := lw_m5 (List.mem_of_getElem? (i := 46) rfl)
theorem k_1007 : (Jvm.Cond.fieldLink "SignatoryModel" (45 : Nat) "SignatoryModel" "amount" "[I") ∈ lw_tbl := lw_m5 (List.mem_of_getElem? (i := 47) rfl)
theorem k_1008 : (Jvm.Cond.fieldLink "SignatoryModel" (48 : Nat) "SignatoryModel" "party" "[I") ∈ lw_tbl := lw_m5 (List.mem_of_getElem? (i := 48) rfl)
theorem k_1009 : (Jvm.Cond.fieldLink "SignatoryModel" (51 : Nat) "SignatoryModel" "day" "[I") ∈ lw_tbl := lw_m5 (List.mem_of_getElem? (i := 49) rfl)
theorem k_1010 : (Jvm.Cond.fieldLink "SignatoryModel" (54 : Nat) "SignatoryModel" "sum" "[I") ∈ lw_tbl := lw_m5 (List.mem_of_getElem? (i := 50) rfl)
theorem k_1011 : (Jvm.Cond.fieldLink "SignatoryModel" (57 : Nat) "SignatoryModel" "lackPower" "[I") ∈ lw_tbl := lw_m5 (List.mem_of_getElem? (i := 51) rfl)
theorem k_1012 : (Jvm.Cond.fieldLink "SignatoryModel" (60 : Nat) "SignatoryModel" "lackDepth" "[I") ∈ lw_tbl := lw_m5 (List.mem_of_getElem? (i := 52) rfl)
theorem k_1013 : (Jvm.Cond.fieldLink "SignatoryModel" (63 : Nat) "SignatoryModel" "status" "[C") ∈ lw_tbl := lw_m5 (List.mem_of_getElem? (i := 53) rfl)
theorem k_1014 : (Jvm.Cond.fieldLink "SignatoryModel" (66 : Nat) "SignatoryModel" "lack" "[C") ∈ lw_tbl := lw_m5 (List.mem_of_getElem? (i := 54) rfl)
theorem k_1015 : (Jvm.Cond.fieldLink "SignatoryModel" (76 : Nat) "SignatoryModel" "persons" "I") ∈ lw_tbl := lw_m5 (List.mem_of_getElem? (i := 55) rfl)
theorem k_1016 : (Jvm.Cond.fieldLink "SignatoryModel" (83 : Nat) "SignatoryModel" "powers" "I") ∈ lw_tbl := lw_m5 (List.mem_of_getElem? (i := 56) rfl)
theorem k_1017 : (Jvm.Cond.fieldLink "SignatoryModel" (90 : Nat) "SignatoryModel" "deeds" "I") ∈ lw_tbl := lw_m5 (List.mem_of_getElem? (i := 57) rfl)
theorem k_1018 : (Jvm.Cond.fieldLink "SignatoryModel" (122 : Nat) "SignatoryModel" "today" "I") ∈ lw_tbl := lw_m5 (List.mem_of_getElem? (i := 58) rfl)
theorem k_1019 : (Jvm.Cond.fieldLink "SignatoryModel" (69 : Nat) "SignatoryModel" "window" "I") ∈ lw_tbl := lw_m5 (List.mem_of_getElem? (i := 59) rfl)
theorem k_1020 : (Jvm.Cond.fieldLink "SignatoryModel" (119 : Nat) "SignatoryModel" "depth" "I") ∈ lw_tbl := lw_m5 (List.mem_of_getElem? (i := 60) rfl)
theorem k_1021 : (Jvm.Cond.fieldLink "SignatoryModel" (73 : Nat) "SignatoryModel" "thrown" "I") ∈ lw_tbl := lw_m5 (List.mem_of_getElem? (i := 61) rfl)
theorem k_1022 : (Jvm.Cond.laysFinal "SignatoryModel" "SignatoryModel" "isAbsent" "[Z") ∈ lw_tbl := lw_m5 (List.mem_of_getElem? (i := 62) rfl)
theorem k_1023 : (Jvm.Cond.soleField "SignatoryModel" "isAbsent") ∈ lw_tbl := lw_m5 (List.mem_of_getElem? (i := 63) rfl)
theorem k_1024 : (Jvm.Cond.laysFinal "SignatoryModel" "SignatoryModel" "isRevoked" "[Z") ∈ lw_tbl := lw_m5 (List.mem_of_getElem? (i := 64) rfl)
theorem k_1025 : (Jvm.Cond.soleField "SignatoryModel" "isRevoked") ∈ lw_tbl := lw_m5 (List.mem_of_getElem? (i := 65) rfl)
theorem k_1026 : (Jvm.Cond.laysFinal "SignatoryModel" "SignatoryModel" "substitute" "[I") ∈ lw_tbl := lw_m5 (List.mem_of_getElem? (i := 66) rfl)
theorem k_1027 : (Jvm.Cond.soleField "SignatoryModel" "substitute") ∈ lw_tbl := lw_m5 (List.mem_of_getElem? (i := 67) rfl)
theorem k_1028 : (Jvm.Cond.laysFinal "SignatoryModel" "SignatoryModel" "holder" "[I") ∈ lw_tbl := lw_m5 (List.mem_of_getElem? (i := 68) rfl)
theorem k_1029 : (Jvm.Cond.soleField "SignatoryModel" "holder") ∈ lw_tbl := lw_m5 (List.mem_of_getElem? (i := 69) rfl)
theorem k_1030 : (Jvm.Cond.laysFinal "SignatoryModel" "SignatoryModel" "kind" "[I") ∈ lw_tbl := lw_m5 (List.mem_of_getElem? (i := 70) rfl)
theorem k_1031 : (Jvm.Cond.soleField "SignatoryModel" "kind") ∈ lw_tbl := lw_m5 (List.mem_of_getElem? (i := 71) rfl)
theorem k_1032 : (Jvm.Cond.laysFinal "SignatoryModel" "SignatoryModel" "limit" "[I") ∈ lw_tbl := lw_m5 (List.mem_of_getElem? (i := 72) rfl)
theorem k_1033 : (Jvm.Cond.soleField "SignatoryModel" "limit") ∈ lw_tbl := lw_m5 (List.mem_of_getElem? (i := 73) rfl)
theorem k_1034 : (Jvm.Cond.laysFinal "SignatoryModel" "SignatoryModel" "first" "[I") ∈ lw_tbl := lw_m5 (List.mem_of_getElem? (i := 74) rfl)
theorem k_1035 : (Jvm.Cond.soleField "SignatoryModel" "first") ∈ lw_tbl := lw_m5 (List.mem_of_getElem? (i := 75) rfl)
theorem k_1036 : (Jvm.Cond.laysFinal "SignatoryModel" "SignatoryModel" "last" "[I") ∈ lw_tbl := lw_m5 (List.mem_of_getElem? (i := 76) rfl)
theorem k_1037 : (Jvm.Cond.soleField "SignatoryModel" "last") ∈ lw_tbl := lw_m5 (List.mem_of_getElem? (i := 77) rfl)
theorem k_1038 : (Jvm.Cond.laysFinal "SignatoryModel" "SignatoryModel" "source" "[I") ∈ lw_tbl := lw_m5 (List.mem_of_getElem? (i := 78) rfl)
theorem k_1039 : (Jvm.Cond.soleField "SignatoryModel" "source") ∈ lw_tbl := lw_m5 (List.mem_of_getElem? (i := 79) rfl)
theorem k_1040 : (Jvm.Cond.laysFinal "SignatoryModel" "SignatoryModel" "hand" "[C") ∈ lw_tbl := lw_m5 (List.mem_of_getElem? (i := 80) rfl)
theorem k_1041 : (Jvm.Cond.soleField "SignatoryModel" "hand") ∈ lw_tbl := lw_m5 (List.mem_of_getElem? (i := 81) rfl)
theorem k_1042 : (Jvm.Cond.laysFinal "SignatoryModel" "SignatoryModel" "deedKind" "[I") ∈ lw_tbl := lw_m5 (List.mem_of_getElem? (i := 82) rfl)
theorem k_1043 : (Jvm.Cond.soleField "SignatoryModel" "deedKind") ∈ lw_tbl := lw_m5 (List.mem_of_getElem? (i := 83) rfl)
theorem k_1044 : (Jvm.Cond.laysFinal "SignatoryModel" "SignatoryModel" "amount" "[I") ∈ lw_tbl := lw_m5 (List.mem_of_getElem? (i := 84) rfl)
theorem k_1045 : (Jvm.Cond.soleField "SignatoryModel" "amount") ∈ lw_tbl := lw_m5 (List.mem_of_getElem? (i := 85) rfl)
theorem k_1046 : (Jvm.Cond.laysFinal "SignatoryModel" "SignatoryModel" "party" "[I") ∈ lw_tbl := lw_m5 (List.mem_of_getElem? (i := 86) rfl)
theorem k_1047 : (Jvm.Cond.soleField "SignatoryModel" "party") ∈ lw_tbl := lw_m5 (List.mem_of_getElem? (i := 87) rfl)
theorem k_1048 : (Jvm.Cond.laysFinal "SignatoryModel" "SignatoryModel" "day" "[I") ∈ lw_tbl := lw_m5 (List.mem_of_getElem? (i := 88) rfl)
theorem k_1049 : (Jvm.Cond.soleField "SignatoryModel" "day") ∈ lw_tbl := lw_m5 (List.mem_of_getElem? (i := 89) rfl)
theorem k_1050 : (Jvm.Cond.laysFinal "SignatoryModel" "SignatoryModel" "sum" "[I") ∈ lw_tbl := lw_m5 (List.mem_of_getElem? (i := 90) rfl)
theorem k_1051 : (Jvm.Cond.soleField "SignatoryModel" "sum") ∈ lw_tbl := lw_m5 (List.mem_of_getElem? (i := 91) rfl)
theorem k_1052 : (Jvm.Cond.laysFinal "SignatoryModel" "SignatoryModel" "lackPower" "[I") ∈ lw_tbl := lw_m5 (List.mem_of_getElem? (i := 92) rfl)
theorem k_1053 : (Jvm.Cond.soleField "SignatoryModel" "lackPower") ∈ lw_tbl := lw_m5 (List.mem_of_getElem? (i := 93) rfl)
theorem k_1054 : (Jvm.Cond.laysFinal "SignatoryModel" "SignatoryModel" "lackDepth" "[I") ∈ lw_tbl := lw_m5 (List.mem_of_getElem? (i := 94) rfl)
theorem k_1055 : (Jvm.Cond.soleField "SignatoryModel" "lackDepth") ∈ lw_tbl := lw_m5 (List.mem_of_getElem? (i := 95) rfl)
theorem k_1056 : (Jvm.Cond.laysFinal "SignatoryModel" "SignatoryModel" "status" "[C") ∈ lw_tbl := lw_m5 (List.mem_of_getElem? (i := 96) rfl)
theorem k_1057 : (Jvm.Cond.soleField "SignatoryModel" "status") ∈ lw_tbl := lw_m5 (List.mem_of_getElem? (i := 97) rfl)
theorem k_1058 : (Jvm.Cond.laysFinal "SignatoryModel" "SignatoryModel" "lack" "[C") ∈ lw_tbl := lw_m5 (List.mem_of_getElem? (i := 98) rfl)
theorem k_1059 : (Jvm.Cond.soleField "SignatoryModel" "lack") ∈ lw_tbl := lw_m5 (List.mem_of_getElem? (i := 99) rfl)
theorem k_1060 : (Jvm.Cond.lays "SignatoryModel" "SignatoryModel" "persons" "I") ∈ lw_tbl := lw_m5 (List.mem_of_getElem? (i := 100) rfl)
theorem k_1061 : (Jvm.Cond.soleField "SignatoryModel" "persons") ∈ lw_tbl := lw_m5 (List.mem_of_getElem? (i := 101) rfl)
theorem k_1062 : (Jvm.Cond.lays "SignatoryModel" "SignatoryModel" "powers" "I") ∈ lw_tbl := lw_m5 (List.mem_of_getElem? (i := 102) rfl)
theorem k_1063 : (Jvm.Cond.soleField "SignatoryModel" "powers") ∈ lw_tbl := lw_m5 (List.mem_of_getElem? (i := 103) rfl)
theorem k_1064 : (Jvm.Cond.lays "SignatoryModel" "SignatoryModel" "deeds" "I") ∈ lw_tbl := lw_m5 (List.mem_of_getElem? (i := 104) rfl)
theorem k_1065 : (Jvm.Cond.soleField "SignatoryModel" "deeds") ∈ lw_tbl := lw_m5 (List.mem_of_getElem? (i := 105) rfl)
theorem k_1066 : (Jvm.Cond.lays "SignatoryModel" "SignatoryModel" "today" "I") ∈ lw_tbl := lw_m5 (List.mem_of_getElem? (i := 106) rfl)
theorem k_1067 : (Jvm.Cond.soleField "SignatoryModel" "today") ∈ lw_tbl := lw_m5 (List.mem_of_getElem? (i := 107) rfl)
theorem k_1068 : (Jvm.Cond.lays "SignatoryModel" "SignatoryModel" "window" "I") ∈ lw_tbl := lw_m5 (List.mem_of_getElem? (i := 108) rfl)
theorem k_1069 : (Jvm.Cond.soleField "SignatoryModel" "window") ∈ lw_tbl := lw_m5 (List.mem_of_getElem? (i := 109) rfl)
theorem k_1070 : (Jvm.Cond.lays "SignatoryModel" "SignatoryModel" "depth" "I") ∈ lw_tbl := lw_m5 (List.mem_of_getElem? (i := 110) rfl)
theorem k_1071 : (Jvm.Cond.soleField "SignatoryModel" "depth") ∈ lw_tbl := lw_m5 (List.mem_of_getElem? (i := 111) rfl)
theorem k_1072 : (Jvm.Cond.lays "SignatoryModel" "SignatoryModel" "thrown" "I") ∈ lw_tbl := lw_m5 (List.mem_of_getElem? (i := 112) rfl)
theorem k_1073 : (Jvm.Cond.soleField "SignatoryModel" "thrown") ∈ lw_tbl := lw_m5 (List.mem_of_getElem? (i := 113) rfl)
theorem k_1074 : (Jvm.Cond.superclass "SignatoryModel" "java/lang/Object") ∈ lw_tbl := lw_m5 (List.mem_of_getElem? (i := 114) rfl)
theorem k_1075 : (Jvm.Cond.arrayClass Jvm.ClassFile.FieldType.char) ∈ lw_tbl := lw_m5 (List.mem_of_getElem? (i := 115) rfl)
theorem k_1076 : (Jvm.Cond.methodLink "SignatoryLaw" (141 : Nat) ({ cls := "SignatoryModel", name := "thrown", desc := "()I" } : Jvm.MethodName)) ∈ lw_tbl := lw_m5 (List.mem_of_getElem? (i := 116) rfl)
theorem k_1077 : (Jvm.Cond.instanceMethod ({ cls := "SignatoryModel", name := "thrown", desc := "()I" } : Jvm.MethodName)) ∈ lw_tbl := lw_m5 (List.mem_of_getElem? (i := 117) rfl)
theorem k_1078 : (Jvm.Cond.selects "SignatoryModel" ({ cls := "SignatoryModel", name := "thrown", desc := "()I" } : Jvm.MethodName) ({ cls := "SignatoryModel", name := "thrown", desc := "()I" } : Jvm.MethodName)) ∈ lw_tbl := lw_m5 (List.mem_of_getElem? (i := 118) rfl)
theorem k_1079 : (Jvm.Cond.code ({ cls := "SignatoryModel", name := "thrown", desc := "()I" } : Jvm.MethodName) prog_7_method_2_code (1 : Nat) (Option.some Jvm.ClassFile.FieldType.int)) ∈ lw_tbl := lw_m5 (List.mem_of_getElem? (i := 119) rfl)
theorem k_1080 : (Jvm.Cond.methodLink "SignatoryLaw" (140 : Nat) ({ cls := "SignatoryModel", name := "addPerson", desc := "()I" } : Jvm.MethodName)) ∈ lw_tbl := lw_m5 (List.mem_of_getElem? (i := 120) rfl)
theorem k_1081 : (Jvm.Cond.instanceMethod ({ cls := "SignatoryModel", name := "addPerson", desc := "()I" } : Jvm.MethodName)) ∈ lw_tbl := lw_m5 (List.mem_of_getElem? (i := 121) rfl)
theorem k_1082 : (Jvm.Cond.selects "SignatoryModel" ({ cls := "SignatoryModel", name := "addPerson", desc := "()I" } : Jvm.MethodName) ({ cls := "SignatoryModel", name := "addPerson", desc := "()I" } : Jvm.MethodName)) ∈ lw_tbl := lw_m5 (List.mem_of_getElem? (i := 122) rfl)
theorem k_1083 : (Jvm.Cond.code ({ cls := "SignatoryModel", name := "addPerson", desc := "()I" } : Jvm.MethodName) prog_7_method_8_code (1 : Nat) (Option.some Jvm.ClassFile.FieldType.int)) ∈ lw_tbl := lw_m5 (List.mem_of_getElem? (i := 123) rfl)
theorem k_1084 : (Jvm.Cond.methodLink "SignatoryModel" (86 : Nat) ({ cls := "SignatoryModel", name := "isThrown", desc := "(ZI)Z" } : Jvm.MethodName)) ∈ lw_tbl := lw_m5 (List.mem_of_getElem? (i := 124) rfl)
theorem k_1085 : (Jvm.Cond.privateMethod ({ cls := "SignatoryModel", name := "isThrown", desc := "(ZI)Z" } : Jvm.MethodName)) ∈ lw_tbl := lw_m5 (List.mem_of_getElem? (i := 125) rfl)
theorem k_1086 : (Jvm.Cond.instanceMethod ({ cls := "SignatoryModel", name := "isThrown", desc := "(ZI)Z" } : Jvm.MethodName)) ∈ lw_tbl := lw_m5 (List.mem_of_getElem? (i := 126) rfl)
theorem k_1087 : (Jvm.Cond.code ({ cls := "SignatoryModel", name := "isThrown", desc := "(ZI)Z" } : Jvm.MethodName) prog_7_method_4_code (3 : Nat) (Option.some Jvm.ClassFile.FieldType.boolean)) ∈ lw_tbl := lw_m5 (List.mem_of_getElem? (i := 127) rfl)
theorem k_1088 : (Jvm.Cond.methodLink "SignatoryLaw" (147 : Nat) ({ cls := "SignatoryModel", name := "leave", desc := "(II)I" } : Jvm.MethodName)) ∈ lw_tbl := lw_m5 (List.mem_of_getElem? (i := 128) rfl)
theorem k_1089 : (Jvm.Cond.instanceMethod ({ cls := "SignatoryModel", name := "leave", desc := "(II)I" } : Jvm.MethodName)) ∈ lw_tbl := lw_m5 (List.mem_of_getElem? (i := 129) rfl)
theorem k_1090 : (Jvm.Cond.selects "SignatoryModel" ({ cls := "SignatoryModel", name := "leave", desc := "(II)I" } : Jvm.MethodName) ({ cls := "SignatoryModel", name := "leave", desc := "(II)I" } : Jvm.MethodName)) ∈ lw_tbl := lw_m5 (List.mem_of_getElem? (i := 130) rfl)
theorem k_1091 : (Jvm.Cond.code ({ cls := "SignatoryModel", name := "leave", desc := "(II)I" } : Jvm.MethodName) prog_7_method_9_code (4 : Nat) (Option.some Jvm.ClassFile.FieldType.int)) ∈ lw_tbl := lw_m5 (List.mem_of_getElem? (i := 131) rfl)
theorem k_1092 : (Jvm.Cond.methodLink "SignatoryModel" (93 : Nat) ({ cls := "SignatoryModel", name := "isNobody", desc := "(I)Z" } : Jvm.MethodName)) ∈ lw_tbl := lw_m5 (List.mem_of_getElem? (i := 132) rfl)
theorem k_1093 : (Jvm.Cond.privateMethod ({ cls := "SignatoryModel", name := "isNobody", desc := "(I)Z" } : Jvm.MethodName)) ∈ lw_tbl := lw_m5 (List.mem_of_getElem? (i := 133) rfl)
theorem k_1094 : (Jvm.Cond.instanceMethod ({ cls := "SignatoryModel", name := "isNobody", desc := "(I)Z" } : Jvm.MethodName)) ∈ lw_tbl := lw_m5 (List.mem_of_getElem? (i := 134) rfl)
theorem k_1095 : (Jvm.Cond.code ({ cls := "SignatoryModel", name := "isNobody", desc := "(I)Z" } : Jvm.MethodName) prog_7_method_5_code (2 : Nat) (Option.some Jvm.ClassFile.FieldType.boolean)) ∈ lw_tbl := lw_m5 (List.mem_of_getElem? (i := 135) rfl)
theorem k_1096 : (Jvm.Cond.methodLink "SignatoryModel" (79 : Nat) ({ cls := "SignatoryModel", name := "isIn", desc := "(III)Z" } : Jvm.MethodName)) ∈ lw_tbl := lw_m5 (List.mem_of_getElem? (i := 136) rfl)
theorem k_1097 : (Jvm.Cond.static ({ cls := "SignatoryModel", name := "isIn", desc := "(III)Z" } : Jvm.MethodName)) ∈ lw_tbl := lw_m5 (List.mem_of_getElem? (i := 137) rfl)
theorem k_1098 : (Jvm.Cond.code ({ cls := "SignatoryModel", name := "isIn", desc := "(III)Z" } : Jvm.MethodName) prog_7_method_3_code (3 : Nat) (Option.some Jvm.ClassFile.FieldType.boolean)) ∈ lw_tbl := lw_m5 (List.mem_of_getElem? (i := 138) rfl)
theorem k_1099 : (Jvm.Cond.methodLink "SignatoryLaw" (151 : Nat) ({ cls := "SignatoryModel", name := "comeBack", desc := "(I)I" } : Jvm.MethodName)) ∈ lw_tbl := lw_m5 (List.mem_of_getElem? (i := 139) rfl)
theorem k_1100 : (Jvm.Cond.instanceMethod ({ cls := "SignatoryModel", name := "comeBack", desc := "(I)I" } : Jvm.MethodName)) ∈ lw_tbl := lw_m5 (List.mem_of_getElem? (i := 140) rfl)
theorem k_1101 : (Jvm.Cond.selects "SignatoryModel" ({ cls := "SignatoryModel", name := "comeBack", desc := "(I)I" } : Jvm.MethodName) ({ cls := "SignatoryModel", name := "comeBack", desc := "(I)I" } : Jvm.MethodName)) ∈ lw_tbl := lw_m5 (List.mem_of_getElem? (i := 141) rfl)
theorem k_1102 : (Jvm.Cond.code ({ cls := "SignatoryModel", name := "comeBack", desc := "(I)I" } : Jvm.MethodName) prog_7_method_10_code (3 : Nat) (Option.some Jvm.ClassFile.FieldType.int)) ∈ lw_tbl := lw_m5 (List.mem_of_getElem? (i := 142) rfl)
theorem k_1103 : (Jvm.Cond.methodLink "SignatoryLaw" (154 : Nat) ({ cls := "SignatoryModel", name := "actsFor", desc := "(II)Z" } : Jvm.MethodName)) ∈ lw_tbl := lw_m5 (List.mem_of_getElem? (i := 143) rfl)
theorem k_1104 : (Jvm.Cond.instanceMethod ({ cls := "SignatoryModel", name := "actsFor", desc := "(II)Z" } : Jvm.MethodName)) ∈ lw_tbl := lw_m5 (List.mem_of_getElem? (i := 144) rfl)
theorem k_1105 : (Jvm.Cond.selects "SignatoryModel" ({ cls := "SignatoryModel", name := "actsFor", desc := "(II)Z" } : Jvm.MethodName) ({ cls := "SignatoryModel", name := "actsFor", desc := "(II)Z" } : Jvm.MethodName)) ∈ lw_tbl := lw_m5 (List.mem_of_getElem? (i := 145) rfl)
theorem k_1106 : (Jvm.Cond.code ({ cls := "SignatoryModel", name := "actsFor", desc := "(II)Z" } : Jvm.MethodName) prog_7_method_12_code (3 : Nat) (Option.some Jvm.ClassFile.FieldType.boolean)) ∈ lw_tbl := lw_m5 (List.mem_of_getElem? (i := 146) rfl)
theorem k_1107 : (Jvm.Cond.methodLink "SignatoryModel" (97 : Nat) ({ cls := "SignatoryModel", name := "acts", desc := "(II)Z" } : Jvm.MethodName)) ∈ lw_tbl := lw_m5 (List.mem_of_getElem? (i := 147) rfl)
theorem k_1108 : (Jvm.Cond.privateMethod ({ cls := "SignatoryModel", name := "acts", desc := "(II)Z" } : Jvm.MethodName)) ∈ lw_tbl := lw_m5 (List.mem_of_getElem? (i := 148) rfl)
theorem k_1109 : (Jvm.Cond.instanceMethod ({ cls := "SignatoryModel", name := "acts", desc := "(II)Z" } : Jvm.MethodName)) ∈ lw_tbl := lw_m5 (List.mem_of_getElem? (i := 149) rfl)
theorem k_1110 : (Jvm.Cond.code ({ cls := "SignatoryModel", name := "acts", desc := "(II)Z" } : Jvm.MethodName) prog_7_method_11_code (3 : Nat) (Option.some Jvm.ClassFile.FieldType.boolean)) ∈ lw_tbl := lw_m5 (List.mem_of_getElem? (i := 150) rfl)
theorem k_1111 : (Jvm.Cond.methodLink "SignatoryLaw" (158 : Nat) ({ cls := "SignatoryModel", name := "grant", desc := "(IICIII)I" } : Jvm.MethodName)) ∈ lw_tbl := lw_m5 (List.mem_of_getElem? (i := 151) rfl)
theorem k_1112 : (Jvm.Cond.instanceMethod ({ cls := "SignatoryModel", name := "grant", desc := "(IICIII)I" } : Jvm.MethodName)) ∈ lw_tbl := lw_m5 (List.mem_of_getElem? (i := 152) rfl)
theorem k_1113 : (Jvm.Cond.selects "SignatoryModel" ({ cls := "SignatoryModel", name := "grant", desc := "(IICIII)I" } : Jvm.MethodName) ({ cls := "SignatoryModel", name := "grant", desc := "(IICIII)I" } : Jvm.MethodName)) ∈ lw_tbl := lw_m5 (List.mem_of_getElem? (i := 153) rfl)
theorem k_1114 : (Jvm.Cond.code ({ cls := "SignatoryModel", name := "grant", desc := "(IICIII)I" } : Jvm.MethodName) prog_7_method_15_code (8 : Nat) (Option.some Jvm.ClassFile.FieldType.int)) ∈ lw_tbl := lw_m5 (List.mem_of_getElem? (i := 154) rfl)
theorem k_1115 : (Jvm.Cond.methodLink "SignatoryModel" (102 : Nat) ({ cls := "SignatoryModel", name := "isPower", desc := "(III)Z" } : Jvm.MethodName)) ∈ lw_tbl := lw_m5 (List.mem_of_getElem? (i := 155) rfl)
theorem k_1116 : (Jvm.Cond.static ({ cls := "SignatoryModel", name := "isPower", desc := "(III)Z" } : Jvm.MethodName)) ∈ lw_tbl := lw_m5 (List.mem_of_getElem? (i := 156) rfl)
theorem k_1117 : (Jvm.Cond.code ({ cls := "SignatoryModel", name := "isPower", desc := "(III)Z" } : Jvm.MethodName) prog_7_method_13_code (3 : Nat) (Option.some Jvm.ClassFile.FieldType.boolean)) ∈ lw_tbl := lw_m5 (List.mem_of_getElem? (i := 157) rfl)
theorem k_1118 : (Jvm.Cond.constant "SignatoryModel" (101 : Nat) (99999 : Int32)) ∈ lw_tbl := lw_m5 (List.mem_of_getElem? (i := 158) rfl)
theorem k_1119 : (Jvm.Cond.methodLink "SignatoryModel" (105 : Nat) ({ cls := "SignatoryModel", name := "adds", desc := "(IICIIII)I" } : Jvm.MethodName)) ∈ lw_tbl := lw_m5 (List.mem_of_getElem? (i := 159) rfl)
theorem k_1120 : (Jvm.Cond.privateMethod ({ cls := "SignatoryModel", name := "adds", desc := "(IICIIII)I" } : Jvm.MethodName)) ∈ lw_tbl := lw_m5 (List.mem_of_getElem? (i := 160) rfl)
theorem k_1121 : (Jvm.Cond.instanceMethod ({ cls := "SignatoryModel", name := "adds", desc := "(IICIIII)I" } : Jvm.MethodName)) ∈ lw_tbl := lw_m5 (List.mem_of_getElem? (i := 161) rfl)
theorem k_1122 : (Jvm.Cond.code ({ cls := "SignatoryModel", name := "adds", desc := "(IICIIII)I" } : Jvm.MethodName) prog_7_method_14_code (8 : Nat) (Option.some Jvm.ClassFile.FieldType.int)) ∈ lw_tbl := lw_m5 (List.mem_of_getElem? (i := 162) rfl)
theorem k_1123 : (Jvm.Cond.methodLink "SignatoryLaw" (162 : Nat) ({ cls := "SignatoryModel", name := "delegate", desc := "(IIIII)I" } : Jvm.MethodName)) ∈ lw_tbl := lw_m5 (List.mem_of_getElem? (i := 163) rfl)
theorem k_1124 : (Jvm.Cond.instanceMethod ({ cls := "SignatoryModel", name := "delegate", desc := "(IIIII)I" } : Jvm.MethodName)) ∈ lw_tbl := lw_m5 (List.mem_of_getElem? (i := 164) rfl)
theorem k_1125 : (Jvm.Cond.selects "SignatoryModel" ({ cls := "SignatoryModel", name := "delegate", desc := "(IIIII)I" } : Jvm.MethodName) ({ cls := "SignatoryModel", name := "delegate", desc := "(IIIII)I" } : Jvm.MethodName)) ∈ lw_tbl := lw_m5 (List.mem_of_getElem? (i := 165) rfl)
theorem k_1126 : (Jvm.Cond.code ({ cls := "SignatoryModel", name := "delegate", desc := "(IIIII)I" } : Jvm.MethodName) prog_7_method_16_code (7 : Nat) (Option.some Jvm.ClassFile.FieldType.int)) ∈ lw_tbl := lw_m5 (List.mem_of_getElem? (i := 166) rfl)
theorem k_1127 : (Jvm.Cond.methodLink "SignatoryLaw" (165 : Nat) ({ cls := "SignatoryModel", name := "lower", desc := "(II)I" } : Jvm.MethodName)) ∈ lw_tbl := lw_m5 (List.mem_of_getElem? (i := 167) rfl)
theorem k_1128 : (Jvm.Cond.instanceMethod ({ cls := "SignatoryModel", name := "lower", desc := "(II)I" } : Jvm.MethodName)) ∈ lw_tbl := lw_m5 (List.mem_of_getElem? (i := 168) rfl)
theorem k_1129 : (Jvm.Cond.selects "SignatoryModel" ({ cls := "SignatoryModel", name := "lower", desc := "(II)I" } : Jvm.MethodName) ({ cls := "SignatoryModel", name := "lower", desc := "(II)I" } : Jvm.MethodName)) ∈ lw_tbl := lw_m5 (List.mem_of_getElem? (i := 169) rfl)
theorem k_1130 : (Jvm.Cond.code ({ cls := "SignatoryModel", name := "lower", desc := "(II)I" } : Jvm.MethodName) prog_7_method_17_code (4 : Nat) (Option.some Jvm.ClassFile.FieldType.int)) ∈ lw_tbl := lw_m5 (List.mem_of_getElem? (i := 170) rfl)
theorem k_1131 : (Jvm.Cond.methodLink "SignatoryModel" (109 : Nat) ({ cls := "SignatoryModel", name := "isNoPower", desc := "(I)Z" } : Jvm.MethodName)) ∈ lw_tbl := lw_m5 (List.mem_of_getElem? (i := 171) rfl)
theorem k_1132 : (Jvm.Cond.privateMethod ({ cls := "SignatoryModel", name := "isNoPower", desc := "(I)Z" } : Jvm.MethodName)) ∈ lw_tbl := lw_m5 (List.mem_of_getElem? (i := 172) rfl)
theorem k_1133 : (Jvm.Cond.instanceMethod ({ cls := "SignatoryModel", name := "isNoPower", desc := "(I)Z" } : Jvm.MethodName)) ∈ lw_tbl := lw_m5 (List.mem_of_getElem? (i := 173) rfl)
theorem k_1134 : (Jvm.Cond.code ({ cls := "SignatoryModel", name := "isNoPower", desc := "(I)Z" } : Jvm.MethodName) prog_7_method_6_code (2 : Nat) (Option.some Jvm.ClassFile.FieldType.boolean)) ∈ lw_tbl := lw_m5 (List.mem_of_getElem? (i := 174) rfl)
theorem k_1135 : (Jvm.Cond.methodLink "SignatoryLaw" (168 : Nat) ({ cls := "SignatoryModel", name := "revoke", desc := "(I)I" } : Jvm.MethodName)) ∈ lw_tbl := lw_m5 (List.mem_of_getElem? (i := 175) rfl)
theorem k_1136 : (Jvm.Cond.instanceMethod ({ cls := "SignatoryModel", name := "revoke", desc := "(I)I" } : Jvm.MethodName)) ∈ lw_tbl := lw_m5 (List.mem_of_getElem? (i := 176) rfl)
theorem k_1137 : (Jvm.Cond.selects "SignatoryModel" ({ cls := "SignatoryModel", name := "revoke", desc := "(I)I" } : Jvm.MethodName) ({ cls := "SignatoryModel", name := "revoke", desc := "(I)I" } : Jvm.MethodName)) ∈ lw_tbl := lw_m5 (List.mem_of_getElem? (i := 177) rfl)
theorem k_1138 : (Jvm.Cond.code ({ cls := "SignatoryModel", name := "revoke", desc := "(I)I" } : Jvm.MethodName) prog_7_method_19_code (4 : Nat) (Option.some Jvm.ClassFile.FieldType.int)) ∈ lw_tbl := lw_m5 (List.mem_of_getElem? (i := 178) rfl)
theorem k_1139 : (Jvm.Cond.methodLink "SignatoryModel" (112 : Nat) ({ cls := "SignatoryModel", name := "comesFrom", desc := "(II)Z" } : Jvm.MethodName)) ∈ lw_tbl := lw_m5 (List.mem_of_getElem? (i := 179) rfl)
theorem k_1140 : (Jvm.Cond.privateMethod ({ cls := "SignatoryModel", name := "comesFrom", desc := "(II)Z" } : Jvm.MethodName)) ∈ lw_tbl := lw_m5 (List.mem_of_getElem? (i := 180) rfl)
theorem k_1141 : (Jvm.Cond.instanceMethod ({ cls := "SignatoryModel", name := "comesFrom", desc := "(II)Z" } : Jvm.MethodName)) ∈ lw_tbl := lw_m5 (List.mem_of_getElem? (i := 181) rfl)
theorem k_1142 : (Jvm.Cond.code ({ cls := "SignatoryModel", name := "comesFrom", desc := "(II)Z" } : Jvm.MethodName) prog_7_method_18_code (3 : Nat) (Option.some Jvm.ClassFile.FieldType.boolean)) ∈ lw_tbl := lw_m5 (List.mem_of_getElem? (i := 182) rfl)
theorem k_1143 : (Jvm.Cond.methodLink "SignatoryLaw" (171 : Nat) ({ cls := "SignatoryModel", name := "source", desc := "(I)I" } : Jvm.MethodName)) ∈ lw_tbl := lw_m5 (List.mem_of_getElem? (i := 183) rfl)
theorem k_1144 : (Jvm.Cond.instanceMethod ({ cls := "SignatoryModel", name := "source", desc := "(I)I" } : Jvm.MethodName)) ∈ lw_tbl := lw_m5 (List.mem_of_getElem? (i := 184) rfl)
theorem k_1145 : (Jvm.Cond.selects "SignatoryModel" ({ cls := "SignatoryModel", name := "source", desc := "(I)I" } : Jvm.MethodName) ({ cls := "SignatoryModel", name := "source", desc := "(I)I" } : Jvm.MethodName)) ∈ lw_tbl := lw_m5 (List.mem_of_getElem? (i := 185) rfl)
theorem k_1146 : (Jvm.Cond.code ({ cls := "SignatoryModel", name := "source", desc := "(I)I" } : Jvm.MethodName) prog_7_method_20_code (2 : Nat) (Option.some Jvm.ClassFile.FieldType.int)) ∈ lw_tbl := lw_m5 (List.mem_of_getElem? (i := 186) rfl)
theorem k_1147 : (Jvm.Cond.methodLink "SignatoryLaw" (174 : Nat) ({ cls := "SignatoryModel", name := "limit", desc := "(I)I" } : Jvm.MethodName)) ∈ lw_tbl := lw_m5 (List.mem_of_getElem? (i := 187) rfl)
theorem k_1148 : (Jvm.Cond.instanceMethod ({ cls := "SignatoryModel", name := "limit", desc := "(I)I" } : Jvm.MethodName)) ∈ lw_tbl := lw_m5 (List.mem_of_getElem? (i := 188) rfl)
theorem k_1149 : (Jvm.Cond.selects "SignatoryModel" ({ cls := "SignatoryModel", name := "limit", desc := "(I)I" } : Jvm.MethodName) ({ cls := "SignatoryModel", name := "limit", desc := "(I)I" } : Jvm.MethodName)) ∈ lw_tbl := lw_m5 (List.mem_of_getElem? (i := 189) rfl)
theorem k_1150 : (Jvm.Cond.code ({ cls := "SignatoryModel", name := "limit", desc := "(I)I" } : Jvm.MethodName) prog_7_method_21_code (2 : Nat) (Option.some Jvm.ClassFile.FieldType.int)) ∈ lw_tbl := lw_m5 (List.mem_of_getElem? (i := 190) rfl)
theorem k_1151 : (Jvm.Cond.methodLink "SignatoryLaw" (177 : Nat) ({ cls := "SignatoryModel", name := "fault", desc := "(II)C" } : Jvm.MethodName)) ∈ lw_tbl := lw_m5 (List.mem_of_getElem? (i := 191) rfl)
theorem k_1152 : (Jvm.Cond.instanceMethod ({ cls := "SignatoryModel", name := "fault", desc := "(II)C" } : Jvm.MethodName)) ∈ lw_tbl := lw_m5 (List.mem_of_getElem? (i := 192) rfl)
theorem k_1153 : (Jvm.Cond.selects "SignatoryModel" ({ cls := "SignatoryModel", name := "fault", desc := "(II)C" } : Jvm.MethodName) ({ cls := "SignatoryModel", name := "fault", desc := "(II)C" } : Jvm.MethodName)) ∈ lw_tbl := lw_m5 (List.mem_of_getElem? (i := 193) rfl)
theorem k_1154 : (Jvm.Cond.code ({ cls := "SignatoryModel", name := "fault", desc := "(II)C" } : Jvm.MethodName) prog_7_method_24_code (3 : Nat) (Option.some Jvm.ClassFile.FieldType.char)) ∈ lw_tbl := lw_m5 (List.mem_of_getElem? (i := 194) rfl)
theorem k_1155 : (Jvm.Cond.methodLink "SignatoryModel" (125 : Nat) ({ cls := "SignatoryModel", name := "isNoSum", desc := "(II)Z" } : Jvm.MethodName)) ∈ lw_tbl := lw_m5 (List.mem_of_getElem? (i := 195) rfl)
theorem k_1156 : (Jvm.Cond.privateMethod ({ cls := "SignatoryModel", name := "isNoSum", desc := "(II)Z" } : Jvm.MethodName)) ∈ lw_tbl := lw_m5 (List.mem_of_getElem? (i := 196) rfl)
theorem k_1157 : (Jvm.Cond.instanceMethod ({ cls := "SignatoryModel", name := "isNoSum", desc := "(II)Z" } : Jvm.MethodName)) ∈ lw_tbl := lw_m5 (List.mem_of_getElem? (i := 197) rfl)
theorem k_1158 : (Jvm.Cond.code ({ cls := "SignatoryModel", name := "isNoSum", desc := "(II)Z" } : Jvm.MethodName) prog_7_method_23_code (3 : Nat) (Option.some Jvm.ClassFile.FieldType.boolean)) ∈ lw_tbl := lw_m5 (List.mem_of_getElem? (i := 198) rfl)
theorem k_1159 : (Jvm.Cond.methodLink "SignatoryModel" (115 : Nat) ({ cls := "SignatoryModel", name := "faulty", desc := "(II)C" } : Jvm.MethodName)) ∈ lw_tbl := lw_m5 (List.mem_of_getElem? (i := 199) rfl)
theorem k_1160 : (Jvm.Cond.privateMethod ({ cls := "SignatoryModel", name := "faulty", desc := "(II)C" } : Jvm.MethodName)) ∈ lw_tbl := lw_m5 (List.mem_of_getElem? (i := 200) rfl)
theorem k_1161 : (Jvm.Cond.instanceMethod ({ cls := "SignatoryModel", name := "faulty", desc := "(II)C" } : Jvm.MethodName)) ∈ lw_tbl := lw_m5 (List.mem_of_getElem? (i := 201) rfl)
theorem k_1162 : (Jvm.Cond.code ({ cls := "SignatoryModel", name := "faulty", desc := "(II)C" } : Jvm.MethodName) prog_7_method_22_code (4 : Nat) (Option.some Jvm.ClassFile.FieldType.char)) ∈ lw_tbl := lw_m5 (List.mem_of_getElem? (i := 202) rfl)
theorem k_1163 : (Jvm.Cond.methodLink "SignatoryLaw" (180 : Nat) ({ cls := "SignatoryModel", name := "faultDepth", desc := "(II)I" } : Jvm.MethodName)) ∈ lw_tbl := lw_m5 (List.mem_of_getElem? (i := 203) rfl)
theorem k_1164 : (Jvm.Cond.instanceMethod ({ cls := "SignatoryModel", name := "faultDepth", desc := "(II)I" } : Jvm.MethodName)) ∈ lw_tbl := lw_m5 (List.mem_of_getElem? (i := 204) rfl)
theorem k_1165 : (Jvm.Cond.selects "SignatoryModel" ({ cls := "SignatoryModel", name := "faultDepth", desc := "(II)I" } : Jvm.MethodName) ({ cls := "SignatoryModel", name := "faultDepth", desc := "(II)I" } : Jvm.MethodName)) ∈ lw_tbl := lw_m5 (List.mem_of_getElem? (i := 205) rfl)
theorem k_1166 : (Jvm.Cond.code ({ cls := "SignatoryModel", name := "faultDepth", desc := "(II)I" } : Jvm.MethodName) prog_7_method_25_code (3 : Nat) (Option.some Jvm.ClassFile.FieldType.int)) ∈ lw_tbl := lw_m5 (List.mem_of_getElem? (i := 206) rfl)
theorem k_1167 : (Jvm.Cond.methodLink "SignatoryLaw" (183 : Nat) ({ cls := "SignatoryModel", name := "reach", desc := "(I)I" } : Jvm.MethodName)) ∈ lw_tbl := lw_m5 (List.mem_of_getElem? (i := 207) rfl)
theorem k_1168 : (Jvm.Cond.instanceMethod ({ cls := "SignatoryModel", name := "reach", desc := "(I)I" } : Jvm.MethodName)) ∈ lw_tbl := lw_m5 (List.mem_of_getElem? (i := 208) rfl)
theorem k_1169 : (Jvm.Cond.selects "SignatoryModel" ({ cls := "SignatoryModel", name := "reach", desc := "(I)I" } : Jvm.MethodName) ({ cls := "SignatoryModel", name := "reach", desc := "(I)I" } : Jvm.MethodName)) ∈ lw_tbl := lw_m5 (List.mem_of_getElem? (i := 209) rfl)
theorem k_1170 : (Jvm.Cond.code ({ cls := "SignatoryModel", name := "reach", desc := "(I)I" } : Jvm.MethodName) prog_7_method_26_code (4 : Nat) (Option.some Jvm.ClassFile.FieldType.int)) ∈ lw_tbl := lw_m5 (List.mem_of_getElem? (i := 210) rfl)
theorem k_1171 : (Jvm.Cond.methodLink "SignatoryModel" (128 : Nat) ({ cls := "java/lang/Math", name := "min", desc := "(II)I" } : Jvm.MethodName)) ∈ lw_tbl := lw_m5 (List.mem_of_getElem? (i := 211) rfl)
theorem k_1172 : (Jvm.Cond.methodLink "SignatoryLaw" (187 : Nat) ({ cls := "SignatoryModel", name := "canSign", desc := "(III)Z" } : Jvm.MethodName)) ∈ lw_tbl := lw_m5 (List.mem_of_getElem? (i := 212) rfl)
theorem k_1173 : (Jvm.Cond.instanceMethod ({ cls := "SignatoryModel", name := "canSign", desc := "(III)Z" } : Jvm.MethodName)) ∈ lw_tbl := lw_m5 (List.mem_of_getElem? (i := 213) rfl)
theorem k_1174 : (Jvm.Cond.selects "SignatoryModel" ({ cls := "SignatoryModel", name := "canSign", desc := "(III)Z" } : Jvm.MethodName) ({ cls := "SignatoryModel", name := "canSign", desc := "(III)Z" } : Jvm.MethodName)) ∈ lw_tbl := lw_m5 (List.mem_of_getElem? (i := 214) rfl)
theorem k_1175 : (Jvm.Cond.code ({ cls := "SignatoryModel", name := "canSign", desc := "(III)Z" } : Jvm.MethodName) prog_7_method_30_code (4 : Nat) (Option.some Jvm.ClassFile.FieldType.boolean)) ∈ lw_tbl := lw_m5 (List.mem_of_getElem? (i := 215) rfl)
theorem k_1176 : (Jvm.Cond.methodLink "SignatoryModel" (138 : Nat) ({ cls := "SignatoryModel", name := "isNoAsk", desc := "(III)Z" } : Jvm.MethodName)) ∈ lw_tbl := lw_m5 (List.mem_of_getElem? (i := 216) rfl)
theorem k_1177 : (Jvm.Cond.privateMethod ({ cls := "SignatoryModel", name := "isNoAsk", desc := "(III)Z" } : Jvm.MethodName)) ∈ lw_tbl := lw_m5 (List.mem_of_getElem? (i := 217) rfl)
theorem k_1178 : (Jvm.Cond.instanceMethod ({ cls := "SignatoryModel", name := "isNoAsk", desc := "(III)Z" } : Jvm.MethodName)) ∈ lw_tbl := lw_m5 (List.mem_of_getElem? (i := 218) rfl)
theorem k_1179 : (Jvm.Cond.code ({ cls := "SignatoryModel", name := "isNoAsk", desc := "(III)Z" } : Jvm.MethodName) prog_7_method_29_code (4 : Nat) (Option.some Jvm.ClassFile.FieldType.boolean)) ∈ lw_tbl := lw_m5 (List.mem_of_getElem? (i := 219) rfl)
theorem k_1180 : (Jvm.Cond.methodLink "SignatoryModel" (134 : Nat) ({ cls := "SignatoryModel", name := "has", desc := "(IICI)Z" } : Jvm.MethodName)) ∈ lw_tbl := lw_m5 (List.mem_of_getElem? (i := 220) rfl)
theorem k_1181 : (Jvm.Cond.privateMethod ({ cls := "SignatoryModel", name := "has", desc := "(IICI)Z" } : Jvm.MethodName)) ∈ lw_tbl := lw_m5 (List.mem_of_getElem? (i := 221) rfl)
theorem k_1182 : (Jvm.Cond.instanceMethod ({ cls := "SignatoryModel", name := "has", desc := "(IICI)Z" } : Jvm.MethodName)) ∈ lw_tbl := lw_m5 (List.mem_of_getElem? (i := 222) rfl)
theorem k_1183 : (Jvm.Cond.code ({ cls := "SignatoryModel", name := "has", desc := "(IICI)Z" } : Jvm.MethodName) prog_7_method_27_code (7 : Nat) (Option.some Jvm.ClassFile.FieldType.boolean)) ∈ lw_tbl := lw_m5 (List.mem_of_getElem? (i := 223) rfl)
theorem k_1184 : (Jvm.Cond.methodLink "SignatoryLaw" (191 : Nat) ({ cls := "SignatoryModel", name := "canSignTogether", desc := "(IIII)Z" } : Jvm.MethodName)) ∈ lw_tbl := lw_m5 (List.mem_of_getElem? (i := 224) rfl)
theorem k_1185 : (Jvm.Cond.instanceMethod ({ cls := "SignatoryModel", name := "canSignTogether", desc := "(IIII)Z" } : Jvm.MethodName)) ∈ lw_tbl := lw_m5 (List.mem_of_getElem? (i := 225) rfl)
theorem k_1186 : (Jvm.Cond.selects "SignatoryModel" ({ cls := "SignatoryModel", name := "canSignTogether", desc := "(IIII)Z" } : Jvm.MethodName) ({ cls := "SignatoryModel", name := "canSignTogether", desc := "(IIII)Z" } : Jvm.MethodName)) ∈ lw_tbl := lw_m5 (List.mem_of_getElem? (i := 226) rfl)
theorem k_1187 : (Jvm.Cond.code ({ cls := "SignatoryModel", name := "canSignTogether", desc := "(IIII)Z" } : Jvm.MethodName) prog_7_method_31_code (5 : Nat) (Option.some Jvm.ClassFile.FieldType.boolean)) ∈ lw_tbl := lw_m5 (List.mem_of_getElem? (i := 227) rfl)
theorem k_1188 : (Jvm.Cond.methodLink "SignatoryModel" (141 : Nat) ({ cls := "SignatoryModel", name := "canTogether", desc := "(IIII)Z" } : Jvm.MethodName)) ∈ lw_tbl := lw_m5 (List.mem_of_getElem? (i := 228) rfl)
theorem k_1189 : (Jvm.Cond.privateMethod ({ cls := "SignatoryModel", name := "canTogether", desc := "(IIII)Z" } : Jvm.MethodName)) ∈ lw_tbl := lw_m5 (List.mem_of_getElem? (i := 229) rfl)
theorem k_1190 : (Jvm.Cond.instanceMethod ({ cls := "SignatoryModel", name := "canTogether", desc := "(IIII)Z" } : Jvm.MethodName)) ∈ lw_tbl := lw_m5 (List.mem_of_getElem? (i := 230) rfl)
theorem k_1191 : (Jvm.Cond.code ({ cls := "SignatoryModel", name := "canTogether", desc := "(IIII)Z" } : Jvm.MethodName) prog_7_method_28_code (6 : Nat) (Option.some Jvm.ClassFile.FieldType.boolean)) ∈ lw_tbl := lw_m5 (List.mem_of_getElem? (i := 231) rfl)
theorem k_1192 : (Jvm.Cond.methodLink "SignatoryLaw" (194 : Nat) ({ cls := "SignatoryModel", name := "signers", desc := "(II)I" } : Jvm.MethodName)) ∈ lw_tbl := lw_m5 (List.mem_of_getElem? (i := 232) rfl)
theorem k_1193 : (Jvm.Cond.instanceMethod ({ cls := "SignatoryModel", name := "signers", desc := "(II)I" } : Jvm.MethodName)) ∈ lw_tbl := lw_m5 (List.mem_of_getElem? (i := 233) rfl)
theorem k_1194 : (Jvm.Cond.selects "SignatoryModel" ({ cls := "SignatoryModel", name := "signers", desc := "(II)I" } : Jvm.MethodName) ({ cls := "SignatoryModel", name := "signers", desc := "(II)I" } : Jvm.MethodName)) ∈ lw_tbl := lw_m5 (List.mem_of_getElem? (i := 234) rfl)
theorem k_1195 : (Jvm.Cond.code ({ cls := "SignatoryModel", name := "signers", desc := "(II)I" } : Jvm.MethodName) prog_7_method_32_code (5 : Nat) (Option.some Jvm.ClassFile.FieldType.int)) ∈ lw_tbl := lw_m5 (List.mem_of_getElem? (i := 235) rfl)
theorem k_1196 : (Jvm.Cond.methodLink "SignatoryLaw" (197 : Nat) ({ cls := "SignatoryModel", name := "pairs", desc := "(II)I" } : Jvm.MethodName)) ∈ lw_tbl := lw_m5 (List.mem_of_getElem? (i := 236) rfl)
theorem k_1197 : (Jvm.Cond.instanceMethod ({ cls := "SignatoryModel", name := "pairs", desc := "(II)I" } : Jvm.MethodName)) ∈ lw_tbl := lw_m5 (List.mem_of_getElem? (i := 237) rfl)
theorem k_1198 : (Jvm.Cond.selects "SignatoryModel" ({ cls := "SignatoryModel", name := "pairs", desc := "(II)I" } : Jvm.MethodName) ({ cls := "SignatoryModel", name := "pairs", desc := "(II)I" } : Jvm.MethodName)) ∈ lw_tbl := lw_m5 (List.mem_of_getElem? (i := 238) rfl)
theorem k_1199 : (Jvm.Cond.code ({ cls := "SignatoryModel", name := "pairs", desc := "(II)I" } : Jvm.MethodName) prog_7_method_33_code (6 : Nat) (Option.some Jvm.ClassFile.FieldType.int)) ∈ lw_tbl := lw_m5 (List.mem_of_getElem? (i := 239) rfl)
theorem k_1200 : (Jvm.Cond.methodLink "SignatoryLaw" (200 : Nat) ({ cls := "SignatoryModel", name := "pairsByTrying", desc := "(II)I" } : Jvm.MethodName)) ∈ lw_tbl := lw_m6 (List.mem_of_getElem? (i := 0) rfl)
theorem k_1201 : (Jvm.Cond.instanceMethod ({ cls := "SignatoryModel", name := "pairsByTrying", desc := "(II)I" } : Jvm.MethodName)) ∈ lw_tbl := lw_m6 (List.mem_of_getElem? (i := 1) rfl)
theorem k_1202 : (Jvm.Cond.selects "SignatoryModel" ({ cls := "SignatoryModel", name := "pairsByTrying", desc := "(II)I" } : Jvm.MethodName) ({ cls := "SignatoryModel", name := "pairsByTrying", desc := "(II)I" } : Jvm.MethodName)) ∈ lw_tbl := lw_m6 (List.mem_of_getElem? (i := 2) rfl)
theorem k_1203 : (Jvm.Cond.code ({ cls := "SignatoryModel", name := "pairsByTrying", desc := "(II)I" } : Jvm.MethodName) prog_7_method_34_code (3 : Nat) (Option.some Jvm.ClassFile.FieldType.int)) ∈ lw_tbl := lw_m6 (List.mem_of_getElem? (i := 3) rfl)
theorem k_1204 : (Jvm.Cond.methodLink "SignatoryModel" (145 : Nat) ({ cls := "SignatoryModel", name := "pairs", desc := "(II)I" } : Jvm.MethodName)) ∈ lw_tbl := lw_m6 (List.mem_of_getElem? (i := 4) rfl)
theorem k_1205 : (Jvm.Cond.methodLink "SignatoryLaw" (203 : Nat) ({ cls := "SignatoryModel", name := "sign", desc := "(IIII)I" } : Jvm.MethodName)) ∈ lw_tbl := lw_m6 (List.mem_of_getElem? (i := 5) rfl)
theorem k_1206 : (Jvm.Cond.instanceMethod ({ cls := "SignatoryModel", name := "sign", desc := "(IIII)I" } : Jvm.MethodName)) ∈ lw_tbl := lw_m6 (List.mem_of_getElem? (i := 6) rfl)
theorem k_1207 : (Jvm.Cond.selects "SignatoryModel" ({ cls := "SignatoryModel", name := "sign", desc := "(IIII)I" } : Jvm.MethodName) ({ cls := "SignatoryModel", name := "sign", desc := "(IIII)I" } : Jvm.MethodName)) ∈ lw_tbl := lw_m6 (List.mem_of_getElem? (i := 7) rfl)
theorem k_1208 : (Jvm.Cond.code ({ cls := "SignatoryModel", name := "sign", desc := "(IIII)I" } : Jvm.MethodName) prog_7_method_40_code (5 : Nat) (Option.some Jvm.ClassFile.FieldType.int)) ∈ lw_tbl := lw_m6 (List.mem_of_getElem? (i := 8) rfl)
theorem k_1209 : (Jvm.Cond.methodLink "SignatoryModel" (160 : Nat) ({ cls := "SignatoryModel", name := "isNoDeed", desc := "(III)Z" } : Jvm.MethodName)) ∈ lw_tbl := lw_m6 (List.mem_of_getElem? (i := 9) rfl)
theorem k_1210 : (Jvm.Cond.privateMethod ({ cls := "SignatoryModel", name := "isNoDeed", desc := "(III)Z" } : Jvm.MethodName)) ∈ lw_tbl := lw_m6 (List.mem_of_getElem? (i := 10) rfl)
theorem k_1211 : (Jvm.Cond.instanceMethod ({ cls := "SignatoryModel", name := "isNoDeed", desc := "(III)Z" } : Jvm.MethodName)) ∈ lw_tbl := lw_m6 (List.mem_of_getElem? (i := 11) rfl)
theorem k_1212 : (Jvm.Cond.code ({ cls := "SignatoryModel", name := "isNoDeed", desc := "(III)Z" } : Jvm.MethodName) prog_7_method_39_code (4 : Nat) (Option.some Jvm.ClassFile.FieldType.boolean)) ∈ lw_tbl := lw_m6 (List.mem_of_getElem? (i := 12) rfl)
theorem k_1213 : (Jvm.Cond.methodLink "SignatoryModel" (163 : Nat) ({ cls := "SignatoryModel", name := "signed", desc := "(IIIII)I" } : Jvm.MethodName)) ∈ lw_tbl := lw_m6 (List.mem_of_getElem? (i := 13) rfl)
theorem k_1214 : (Jvm.Cond.privateMethod ({ cls := "SignatoryModel", name := "signed", desc := "(IIIII)I" } : Jvm.MethodName)) ∈ lw_tbl := lw_m6 (List.mem_of_getElem? (i := 14) rfl)
theorem k_1215 : (Jvm.Cond.instanceMethod ({ cls := "SignatoryModel", name := "signed", desc := "(IIIII)I" } : Jvm.MethodName)) ∈ lw_tbl := lw_m6 (List.mem_of_getElem? (i := 15) rfl)
theorem k_1216 : (Jvm.Cond.code ({ cls := "SignatoryModel", name := "signed", desc := "(IIIII)I" } : Jvm.MethodName) prog_7_method_38_code (8 : Nat) (Option.some Jvm.ClassFile.FieldType.int)) ∈ lw_tbl := lw_m6 (List.mem_of_getElem? (i := 16) rfl)
theorem k_1217 : (Jvm.Cond.methodLink "SignatoryModel" (152 : Nat) ({ cls := "SignatoryModel", name := "added", desc := "(III)I" } : Jvm.MethodName)) ∈ lw_tbl := lw_m6 (List.mem_of_getElem? (i := 17) rfl)
theorem k_1218 : (Jvm.Cond.privateMethod ({ cls := "SignatoryModel", name := "added", desc := "(III)I" } : Jvm.MethodName)) ∈ lw_tbl := lw_m6 (List.mem_of_getElem? (i := 18) rfl)
theorem k_1219 : (Jvm.Cond.instanceMethod ({ cls := "SignatoryModel", name := "added", desc := "(III)I" } : Jvm.MethodName)) ∈ lw_tbl := lw_m6 (List.mem_of_getElem? (i := 19) rfl)
theorem k_1220 : (Jvm.Cond.code ({ cls := "SignatoryModel", name := "added", desc := "(III)I" } : Jvm.MethodName) prog_7_method_35_code (6 : Nat) (Option.some Jvm.ClassFile.FieldType.int)) ∈ lw_tbl := lw_m6 (List.mem_of_getElem? (i := 20) rfl)
theorem k_1221 : (Jvm.Cond.methodLink "SignatoryModel" (156 : Nat) ({ cls := "SignatoryModel", name := "lacks", desc := "(III)V" } : Jvm.MethodName)) ∈ lw_tbl := lw_m6 (List.mem_of_getElem? (i := 21) rfl)
theorem k_1222 : (Jvm.Cond.privateMethod ({ cls := "SignatoryModel", name := "lacks", desc := "(III)V" } : Jvm.MethodName)) ∈ lw_tbl := lw_m6 (List.mem_of_getElem? (i := 22) rfl)
theorem k_1223 : (Jvm.Cond.instanceMethod ({ cls := "SignatoryModel", name := "lacks", desc := "(III)V" } : Jvm.MethodName)) ∈ lw_tbl := lw_m6 (List.mem_of_getElem? (i := 23) rfl)
theorem k_1224 : (Jvm.Cond.code ({ cls := "SignatoryModel", name := "lacks", desc := "(III)V" } : Jvm.MethodName) prog_7_method_37_code (7 : Nat) (Option.none : Option Jvm.ClassFile.FieldType)) ∈ lw_tbl := lw_m6 (List.mem_of_getElem? (i := 24) rfl)
theorem k_1225 : (Jvm.Cond.methodLink "SignatoryModel" (148 : Nat) ({ cls := "SignatoryModel", name := "order", desc := "(C)I" } : Jvm.MethodName)) ∈ lw_tbl := lw_m6 (List.mem_of_getElem? (i := 25) rfl)
theorem k_1226 : (Jvm.Cond.static ({ cls := "SignatoryModel", name := "order", desc := "(C)I" } : Jvm.MethodName)) ∈ lw_tbl := lw_m6 (List.mem_of_getElem? (i := 26) rfl)
theorem k_1227 : (Jvm.Cond.code ({ cls := "SignatoryModel", name := "order", desc := "(C)I" } : Jvm.MethodName) prog_7_method_36_code (1 : Nat) (Option.some Jvm.ClassFile.FieldType.int)) ∈ lw_tbl := lw_m6 (List.mem_of_getElem? (i := 27) rfl)
theorem k_1228 : (Jvm.Cond.methodLink "SignatoryLaw" (206 : Nat) ({ cls := "SignatoryModel", name := "signTogether", desc := "(IIIII)I" } : Jvm.MethodName)) ∈ lw_tbl := lw_m6 (List.mem_of_getElem? (i := 28) rfl)
theorem k_1229 : (Jvm.Cond.instanceMethod ({ cls := "SignatoryModel", name := "signTogether", desc := "(IIIII)I" } : Jvm.MethodName)) ∈ lw_tbl := lw_m6 (List.mem_of_getElem? (i := 29) rfl)
theorem k_1230 : (Jvm.Cond.selects "SignatoryModel" ({ cls := "SignatoryModel", name := "signTogether", desc := "(IIIII)I" } : Jvm.MethodName) ({ cls := "SignatoryModel", name := "signTogether", desc := "(IIIII)I" } : Jvm.MethodName)) ∈ lw_tbl := lw_m6 (List.mem_of_getElem? (i := 30) rfl)
theorem k_1231 : (Jvm.Cond.code ({ cls := "SignatoryModel", name := "signTogether", desc := "(IIIII)I" } : Jvm.MethodName) prog_7_method_41_code (6 : Nat) (Option.some Jvm.ClassFile.FieldType.int)) ∈ lw_tbl := lw_m6 (List.mem_of_getElem? (i := 31) rfl)
theorem k_1232 : (Jvm.Cond.methodLink "SignatoryLaw" (209 : Nat) ({ cls := "SignatoryModel", name := "ratify", desc := "(II)I" } : Jvm.MethodName)) ∈ lw_tbl := lw_m6 (List.mem_of_getElem? (i := 32) rfl)
theorem k_1233 : (Jvm.Cond.instanceMethod ({ cls := "SignatoryModel", name := "ratify", desc := "(II)I" } : Jvm.MethodName)) ∈ lw_tbl := lw_m6 (List.mem_of_getElem? (i := 33) rfl)
theorem k_1234 : (Jvm.Cond.selects "SignatoryModel" ({ cls := "SignatoryModel", name := "ratify", desc := "(II)I" } : Jvm.MethodName) ({ cls := "SignatoryModel", name := "ratify", desc := "(II)I" } : Jvm.MethodName)) ∈ lw_tbl := lw_m6 (List.mem_of_getElem? (i := 34) rfl)
theorem k_1235 : (Jvm.Cond.code ({ cls := "SignatoryModel", name := "ratify", desc := "(II)I" } : Jvm.MethodName) prog_7_method_42_code (3 : Nat) (Option.some Jvm.ClassFile.FieldType.int)) ∈ lw_tbl := lw_m6 (List.mem_of_getElem? (i := 35) rfl)
theorem k_1236 : (Jvm.Cond.methodLink "SignatoryLaw" (212 : Nat) ({ cls := "SignatoryModel", name := "annul", desc := "(I)I" } : Jvm.MethodName)) ∈ lw_tbl := lw_m6 (List.mem_of_getElem? (i := 36) rfl)
theorem k_1237 : (Jvm.Cond.instanceMethod ({ cls := "SignatoryModel", name := "annul", desc := "(I)I" } : Jvm.MethodName)) ∈ lw_tbl := lw_m6 (List.mem_of_getElem? (i := 37) rfl)
theorem k_1238 : (Jvm.Cond.selects "SignatoryModel" ({ cls := "SignatoryModel", name := "annul", desc := "(I)I" } : Jvm.MethodName) ({ cls := "SignatoryModel", name := "annul", desc := "(I)I" } : Jvm.MethodName)) ∈ lw_tbl := lw_m6 (List.mem_of_getElem? (i := 38) rfl)
theorem k_1239 : (Jvm.Cond.code ({ cls := "SignatoryModel", name := "annul", desc := "(I)I" } : Jvm.MethodName) prog_7_method_43_code (4 : Nat) (Option.some Jvm.ClassFile.FieldType.int)) ∈ lw_tbl := lw_m6 (List.mem_of_getElem? (i := 39) rfl)
theorem k_1240 : (Jvm.Cond.methodLink "SignatoryModel" (167 : Nat) ({ cls := "SignatoryModel", name := "isNoDeed", desc := "(I)Z" } : Jvm.MethodName)) ∈ lw_tbl := lw_m6 (List.mem_of_getElem? (i := 40) rfl)
theorem k_1241 : (Jvm.Cond.privateMethod ({ cls := "SignatoryModel", name := "isNoDeed", desc := "(I)Z" } : Jvm.MethodName)) ∈ lw_tbl := lw_m6 (List.mem_of_getElem? (i := 41) rfl)
theorem k_1242 : (Jvm.Cond.instanceMethod ({ cls := "SignatoryModel", name := "isNoDeed", desc := "(I)Z" } : Jvm.MethodName)) ∈ lw_tbl := lw_m6 (List.mem_of_getElem? (i := 42) rfl)
theorem k_1243 : (Jvm.Cond.code ({ cls := "SignatoryModel", name := "isNoDeed", desc := "(I)Z" } : Jvm.MethodName) prog_7_method_7_code (2 : Nat) (Option.some Jvm.ClassFile.FieldType.boolean)) ∈ lw_tbl := lw_m6 (List.mem_of_getElem? (i := 43) rfl)
theorem k_1244 : (Jvm.Cond.methodLink "SignatoryLaw" (215 : Nat) ({ cls := "SignatoryModel", name := "status", desc := "(I)C" } : Jvm.MethodName)) ∈ lw_tbl := lw_m6 (List.mem_of_getElem? (i := 44) rfl)
theorem k_1245 : (Jvm.Cond.instanceMethod ({ cls := "SignatoryModel", name := "status", desc := "(I)C" } : Jvm.MethodName)) ∈ lw_tbl := lw_m6 (List.mem_of_getElem? (i := 45) rfl)
theorem k_1246 : (Jvm.Cond.selects "SignatoryModel" ({ cls := "SignatoryModel", name := "status", desc := "(I)C" } : Jvm.MethodName) ({ cls := "SignatoryModel", name := "status", desc := "(I)C" } : Jvm.MethodName)) ∈ lw_tbl := lw_m6 (List.mem_of_getElem? (i := 46) rfl)
theorem k_1247 : (Jvm.Cond.code ({ cls := "SignatoryModel", name := "status", desc := "(I)C" } : Jvm.MethodName) prog_7_method_44_code (2 : Nat) (Option.some Jvm.ClassFile.FieldType.char)) ∈ lw_tbl := lw_m6 (List.mem_of_getElem? (i := 47) rfl)
theorem k_1248 : (Jvm.Cond.methodLink "SignatoryLaw" (218 : Nat) ({ cls := "SignatoryModel", name := "sum", desc := "(I)I" } : Jvm.MethodName)) ∈ lw_tbl := lw_m6 (List.mem_of_getElem? (i := 48) rfl)
theorem k_1249 : (Jvm.Cond.instanceMethod ({ cls := "SignatoryModel", name := "sum", desc := "(I)I" } : Jvm.MethodName)) ∈ lw_tbl := lw_m6 (List.mem_of_getElem? (i := 49) rfl)
theorem k_1250 : (Jvm.Cond.selects "SignatoryModel" ({ cls := "SignatoryModel", name := "sum", desc := "(I)I" } : Jvm.MethodName) ({ cls := "SignatoryModel", name := "sum", desc := "(I)I" } : Jvm.MethodName)) ∈ lw_tbl := lw_m6 (List.mem_of_getElem? (i := 50) rfl)
theorem k_1251 : (Jvm.Cond.code ({ cls := "SignatoryModel", name := "sum", desc := "(I)I" } : Jvm.MethodName) prog_7_method_45_code (2 : Nat) (Option.some Jvm.ClassFile.FieldType.int)) ∈ lw_tbl := lw_m6 (List.mem_of_getElem? (i := 51) rfl)
theorem k_1252 : (Jvm.Cond.methodLink "SignatoryLaw" (221 : Nat) ({ cls := "SignatoryModel", name := "sumByPapers", desc := "(I)I" } : Jvm.MethodName)) ∈ lw_tbl := lw_m6 (List.mem_of_getElem? (i := 52) rfl)
theorem k_1253 : (Jvm.Cond.instanceMethod ({ cls := "SignatoryModel", name := "sumByPapers", desc := "(I)I" } : Jvm.MethodName)) ∈ lw_tbl := lw_m6 (List.mem_of_getElem? (i := 53) rfl)
theorem k_1254 : (Jvm.Cond.selects "SignatoryModel" ({ cls := "SignatoryModel", name := "sumByPapers", desc := "(I)I" } : Jvm.MethodName) ({ cls := "SignatoryModel", name := "sumByPapers", desc := "(I)I" } : Jvm.MethodName)) ∈ lw_tbl := lw_m6 (List.mem_of_getElem? (i := 54) rfl)
theorem k_1255 : (Jvm.Cond.code ({ cls := "SignatoryModel", name := "sumByPapers", desc := "(I)I" } : Jvm.MethodName) prog_7_method_46_code (2 : Nat) (Option.some Jvm.ClassFile.FieldType.int)) ∈ lw_tbl := lw_m6 (List.mem_of_getElem? (i := 55) rfl)
theorem k_1256 : (Jvm.Cond.methodLink "SignatoryModel" (169 : Nat) ({ cls := "SignatoryModel", name := "sum", desc := "(I)I" } : Jvm.MethodName)) ∈ lw_tbl := lw_m6 (List.mem_of_getElem? (i := 56) rfl)
theorem k_1257 : (Jvm.Cond.methodLink "SignatoryLaw" (224 : Nat) ({ cls := "SignatoryModel", name := "stands", desc := "(I)Z" } : Jvm.MethodName)) ∈ lw_tbl := lw_m6 (List.mem_of_getElem? (i := 57) rfl)
theorem k_1258 : (Jvm.Cond.instanceMethod ({ cls := "SignatoryModel", name := "stands", desc := "(I)Z" } : Jvm.MethodName)) ∈ lw_tbl := lw_m6 (List.mem_of_getElem? (i := 58) rfl)
theorem k_1259 : (Jvm.Cond.selects "SignatoryModel" ({ cls := "SignatoryModel", name := "stands", desc := "(I)Z" } : Jvm.MethodName) ({ cls := "SignatoryModel", name := "stands", desc := "(I)Z" } : Jvm.MethodName)) ∈ lw_tbl := lw_m6 (List.mem_of_getElem? (i := 59) rfl)
theorem k_1260 : (Jvm.Cond.code ({ cls := "SignatoryModel", name := "stands", desc := "(I)Z" } : Jvm.MethodName) prog_7_method_48_code (2 : Nat) (Option.some Jvm.ClassFile.FieldType.boolean)) ∈ lw_tbl := lw_m6 (List.mem_of_getElem? (i := 60) rfl)
theorem k_1261 : (Jvm.Cond.methodLink "SignatoryModel" (172 : Nat) ({ cls := "SignatoryModel", name := "isGood", desc := "(I)Z" } : Jvm.MethodName)) ∈ lw_tbl := lw_m6 (List.mem_of_getElem? (i := 61) rfl)
theorem k_1262 : (Jvm.Cond.privateMethod ({ cls := "SignatoryModel", name := "isGood", desc := "(I)Z" } : Jvm.MethodName)) ∈ lw_tbl := lw_m6 (List.mem_of_getElem? (i := 62) rfl)
theorem k_1263 : (Jvm.Cond.instanceMethod ({ cls := "SignatoryModel", name := "isGood", desc := "(I)Z" } : Jvm.MethodName)) ∈ lw_tbl := lw_m6 (List.mem_of_getElem? (i := 63) rfl)
theorem k_1264 : (Jvm.Cond.code ({ cls := "SignatoryModel", name := "isGood", desc := "(I)Z" } : Jvm.MethodName) prog_7_method_47_code (2 : Nat) (Option.some Jvm.ClassFile.FieldType.boolean)) ∈ lw_tbl := lw_m6 (List.mem_of_getElem? (i := 64) rfl)
theorem k_1265 : (Jvm.Cond.methodLink "SignatoryLaw" (227 : Nat) ({ cls := "SignatoryModel", name := "standsByPapers", desc := "(I)Z" } : Jvm.MethodName)) ∈ lw_tbl := lw_m6 (List.mem_of_getElem? (i := 65) rfl)
theorem k_1266 : (Jvm.Cond.instanceMethod ({ cls := "SignatoryModel", name := "standsByPapers", desc := "(I)Z" } : Jvm.MethodName)) ∈ lw_tbl := lw_m6 (List.mem_of_getElem? (i := 66) rfl)
theorem k_1267 : (Jvm.Cond.selects "SignatoryModel" ({ cls := "SignatoryModel", name := "standsByPapers", desc := "(I)Z" } : Jvm.MethodName) ({ cls := "SignatoryModel", name := "standsByPapers", desc := "(I)Z" } : Jvm.MethodName)) ∈ lw_tbl := lw_m6 (List.mem_of_getElem? (i := 67) rfl)
theorem k_1268 : (Jvm.Cond.code ({ cls := "SignatoryModel", name := "standsByPapers", desc := "(I)Z" } : Jvm.MethodName) prog_7_method_49_code (2 : Nat) (Option.some Jvm.ClassFile.FieldType.boolean)) ∈ lw_tbl := lw_m6 (List.mem_of_getElem? (i := 68) rfl)
theorem k_1269 : (Jvm.Cond.methodLink "SignatoryModel" (175 : Nat) ({ cls := "SignatoryModel", name := "stands", desc := "(I)Z" } : Jvm.MethodName)) ∈ lw_tbl := lw_m6 (List.mem_of_getElem? (i := 69) rfl)
theorem k_1270 : (Jvm.Cond.methodLink "SignatoryLaw" (230 : Nat) ({ cls := "SignatoryModel", name := "lack", desc := "(I)C" } : Jvm.MethodName)) ∈ lw_tbl := lw_m6 (List.mem_of_getElem? (i := 70) rfl)
theorem k_1271 : (Jvm.Cond.instanceMethod ({ cls := "SignatoryModel", name := "lack", desc := "(I)C" } : Jvm.MethodName)) ∈ lw_tbl := lw_m6 (List.mem_of_getElem? (i := 71) rfl)
theorem k_1272 : (Jvm.Cond.selects "SignatoryModel" ({ cls := "SignatoryModel", name := "lack", desc := "(I)C" } : Jvm.MethodName) ({ cls := "SignatoryModel", name := "lack", desc := "(I)C" } : Jvm.MethodName)) ∈ lw_tbl := lw_m6 (List.mem_of_getElem? (i := 72) rfl)
theorem k_1273 : (Jvm.Cond.code ({ cls := "SignatoryModel", name := "lack", desc := "(I)C" } : Jvm.MethodName) prog_7_method_50_code (2 : Nat) (Option.some Jvm.ClassFile.FieldType.char)) ∈ lw_tbl := lw_m6 (List.mem_of_getElem? (i := 73) rfl)
theorem k_1274 : (Jvm.Cond.methodLink "SignatoryLaw" (233 : Nat) ({ cls := "SignatoryModel", name := "lackPower", desc := "(I)I" } : Jvm.MethodName)) ∈ lw_tbl := lw_m6 (List.mem_of_getElem? (i := 74) rfl)
theorem k_1275 : (Jvm.Cond.instanceMethod ({ cls := "SignatoryModel", name := "lackPower", desc := "(I)I" } : Jvm.MethodName)) ∈ lw_tbl := lw_m6 (List.mem_of_getElem? (i := 75) rfl)
theorem k_1276 : (Jvm.Cond.selects "SignatoryModel" ({ cls := "SignatoryModel", name := "lackPower", desc := "(I)I" } : Jvm.MethodName) ({ cls := "SignatoryModel", name := "lackPower", desc := "(I)I" } : Jvm.MethodName)) ∈ lw_tbl := lw_m6 (List.mem_of_getElem? (i := 76) rfl)
theorem k_1277 : (Jvm.Cond.code ({ cls := "SignatoryModel", name := "lackPower", desc := "(I)I" } : Jvm.MethodName) prog_7_method_51_code (2 : Nat) (Option.some Jvm.ClassFile.FieldType.int)) ∈ lw_tbl := lw_m6 (List.mem_of_getElem? (i := 77) rfl)
theorem k_1278 : (Jvm.Cond.methodLink "SignatoryLaw" (236 : Nat) ({ cls := "SignatoryModel", name := "lackDepth", desc := "(I)I" } : Jvm.MethodName)) ∈ lw_tbl := lw_m6 (List.mem_of_getElem? (i := 78) rfl)
theorem k_1279 : (Jvm.Cond.instanceMethod ({ cls := "SignatoryModel", name := "lackDepth", desc := "(I)I" } : Jvm.MethodName)) ∈ lw_tbl := lw_m6 (List.mem_of_getElem? (i := 79) rfl)
theorem k_1280 : (Jvm.Cond.selects "SignatoryModel" ({ cls := "SignatoryModel", name := "lackDepth", desc := "(I)I" } : Jvm.MethodName) ({ cls := "SignatoryModel", name := "lackDepth", desc := "(I)I" } : Jvm.MethodName)) ∈ lw_tbl := lw_m6 (List.mem_of_getElem? (i := 80) rfl)
theorem k_1281 : (Jvm.Cond.code ({ cls := "SignatoryModel", name := "lackDepth", desc := "(I)I" } : Jvm.MethodName) prog_7_method_52_code (2 : Nat) (Option.some Jvm.ClassFile.FieldType.int)) ∈ lw_tbl := lw_m6 (List.mem_of_getElem? (i := 81) rfl)
theorem k_1282 : (Jvm.Cond.methodLink "SignatoryLaw" (239 : Nat) ({ cls := "SignatoryModel", name := "setWindow", desc := "(I)I" } : Jvm.MethodName)) ∈ lw_tbl := lw_m6 (List.mem_of_getElem? (i := 82) rfl)
theorem k_1283 : (Jvm.Cond.instanceMethod ({ cls := "SignatoryModel", name := "setWindow", desc := "(I)I" } : Jvm.MethodName)) ∈ lw_tbl := lw_m6 (List.mem_of_getElem? (i := 83) rfl)
theorem k_1284 : (Jvm.Cond.selects "SignatoryModel" ({ cls := "SignatoryModel", name := "setWindow", desc := "(I)I" } : Jvm.MethodName) ({ cls := "SignatoryModel", name := "setWindow", desc := "(I)I" } : Jvm.MethodName)) ∈ lw_tbl := lw_m6 (List.mem_of_getElem? (i := 84) rfl)
theorem k_1285 : (Jvm.Cond.code ({ cls := "SignatoryModel", name := "setWindow", desc := "(I)I" } : Jvm.MethodName) prog_7_method_53_code (3 : Nat) (Option.some Jvm.ClassFile.FieldType.int)) ∈ lw_tbl := lw_m6 (List.mem_of_getElem? (i := 85) rfl)
theorem k_1286 : (Jvm.Cond.methodLink "SignatoryLaw" (242 : Nat) ({ cls := "SignatoryModel", name := "pass", desc := "(I)I" } : Jvm.MethodName)) ∈ lw_tbl := lw_m6 (List.mem_of_getElem? (i := 86) rfl)
theorem k_1287 : (Jvm.Cond.instanceMethod ({ cls := "SignatoryModel", name := "pass", desc := "(I)I" } : Jvm.MethodName)) ∈ lw_tbl := lw_m6 (List.mem_of_getElem? (i := 87) rfl)
theorem k_1288 : (Jvm.Cond.selects "SignatoryModel" ({ cls := "SignatoryModel", name := "pass", desc := "(I)I" } : Jvm.MethodName) ({ cls := "SignatoryModel", name := "pass", desc := "(I)I" } : Jvm.MethodName)) ∈ lw_tbl := lw_m6 (List.mem_of_getElem? (i := 88) rfl)
theorem k_1289 : (Jvm.Cond.code ({ cls := "SignatoryModel", name := "pass", desc := "(I)I" } : Jvm.MethodName) prog_7_method_54_code (2 : Nat) (Option.some Jvm.ClassFile.FieldType.int)) ∈ lw_tbl := lw_m6 (List.mem_of_getElem? (i := 89) rfl)
theorem k_1290 : (Jvm.Cond.methodLink "SignatoryLaw" (246 : Nat) ({ cls := "SignatoryModel", name := "today", desc := "()I" } : Jvm.MethodName)) ∈ lw_tbl := lw_m6 (List.mem_of_getElem? (i := 90) rfl)
theorem k_1291 : (Jvm.Cond.instanceMethod ({ cls := "SignatoryModel", name := "today", desc := "()I" } : Jvm.MethodName)) ∈ lw_tbl := lw_m6 (List.mem_of_getElem? (i := 91) rfl)
theorem k_1292 : (Jvm.Cond.selects "SignatoryModel" ({ cls := "SignatoryModel", name := "today", desc := "()I" } : Jvm.MethodName) ({ cls := "SignatoryModel", name := "today", desc := "()I" } : Jvm.MethodName)) ∈ lw_tbl := lw_m6 (List.mem_of_getElem? (i := 92) rfl)
theorem k_1293 : (Jvm.Cond.code ({ cls := "SignatoryModel", name := "today", desc := "()I" } : Jvm.MethodName) prog_7_method_55_code (1 : Nat) (Option.some Jvm.ClassFile.FieldType.int)) ∈ lw_tbl := lw_m6 (List.mem_of_getElem? (i := 93) rfl)
theorem k_1294 : (Jvm.Cond.methodLink "SignatoryLaw" (251 : Nat) ({ cls := "SignatoryModel", name := "bound", desc := "()J" } : Jvm.MethodName)) ∈ lw_tbl := lw_m6 (List.mem_of_getElem? (i := 94) rfl)
theorem k_1295 : (Jvm.Cond.instanceMethod ({ cls := "SignatoryModel", name := "bound", desc := "()J" } : Jvm.MethodName)) ∈ lw_tbl := lw_m6 (List.mem_of_getElem? (i := 95) rfl)
theorem k_1296 : (Jvm.Cond.selects "SignatoryModel" ({ cls := "SignatoryModel", name := "bound", desc := "()J" } : Jvm.MethodName) ({ cls := "SignatoryModel", name := "bound", desc := "()J" } : Jvm.MethodName)) ∈ lw_tbl := lw_m6 (List.mem_of_getElem? (i := 96) rfl)
theorem k_1297 : (Jvm.Cond.code ({ cls := "SignatoryModel", name := "bound", desc := "()J" } : Jvm.MethodName) prog_7_method_56_code (4 : Nat) (Option.some Jvm.ClassFile.FieldType.long)) ∈ lw_tbl := lw_m6 (List.mem_of_getElem? (i := 97) rfl)
theorem k_1298 : (Jvm.Cond.methodLink "SignatoryLaw" (255 : Nat) ({ cls := "SignatoryModel", name := "standingShare", desc := "()F" } : Jvm.MethodName)) ∈ lw_tbl := lw_m6 (List.mem_of_getElem? (i := 98) rfl)
theorem k_1299 : (Jvm.Cond.instanceMethod ({ cls := "SignatoryModel", name := "standingShare", desc := "()F" } : Jvm.MethodName)) ∈ lw_tbl := lw_m6 (List.mem_of_getElem? (i := 99) rfl)
theorem k_1300 : (Jvm.Cond.selects "SignatoryModel" ({ cls := "SignatoryModel", name := "standingShare", desc := "()F" } : Jvm.MethodName) ({ cls := "SignatoryModel", name := "standingShare", desc := "()F" } : Jvm.MethodName)) ∈ lw_tbl := lw_m6 (List.mem_of_getElem? (i := 100) rfl)
theorem k_1301 : (Jvm.Cond.code ({ cls := "SignatoryModel", name := "standingShare", desc := "()F" } : Jvm.MethodName) prog_7_method_57_code (3 : Nat) (Option.some Jvm.ClassFile.FieldType.float)) ∈ lw_tbl := lw_m6 (List.mem_of_getElem? (i := 101) rfl)
theorem k_1302 : (Jvm.Cond.arrayClass Jvm.ClassFile.FieldType.long) ∈ lw_tbl := lw_m6 (List.mem_of_getElem? (i := 102) rfl)
theorem k_1303 : (Jvm.Cond.arrayClass Jvm.ClassFile.FieldType.double) ∈ lw_tbl := lw_m6 (List.mem_of_getElem? (i := 103) rfl)
theorem k_1304 : (Jvm.Cond.sameMethod "java/lang/Throwable" "java/lang/Throwable" "fillInStackTrace" "(I)Ljava/lang/Throwable;") ∈ lw_tbl := lw_m6 (List.mem_of_getElem? (i := 104) rfl)
theorem k_1305 : (Jvm.Cond.castable "Signatory" "java/lang/Object") ∈ lw_tbl := lw_m6 (List.mem_of_getElem? (i := 105) rfl)
theorem k_1306 : (Jvm.Cond.castable "java/util/ArrayList" "java/lang/Object") ∈ lw_tbl := lw_m6 (List.mem_of_getElem? (i := 106) rfl)
theorem k_1307 : (Jvm.Cond.castable "Signatory$Moment" "java/lang/Object") ∈ lw_tbl := lw_m6 (List.mem_of_getElem? (i := 107) rfl)
theorem k_1308 : (Jvm.Cond.castable "SignatoryModel" "java/lang/Object") ∈ lw_tbl := lw_m6 (List.mem_of_getElem? (i := 108) rfl)
theorem k_1309 : (Jvm.Cond.castable "java/lang/IllegalStateException" "java/lang/Object") ∈ lw_tbl := lw_m6 (List.mem_of_getElem? (i := 109) rfl)
theorem k_1310 : (Jvm.Cond.castable "java/lang/IndexOutOfBoundsException" "java/lang/Object") ∈ lw_tbl := lw_m6 (List.mem_of_getElem? (i := 110) rfl)
theorem k_1311 : (Jvm.Cond.castable "java/lang/IllegalArgumentException" "java/lang/Object") ∈ lw_tbl := lw_m6 (List.mem_of_getElem? (i := 111) rfl)
theorem k_1312 : (Jvm.Cond.castable "Signatory$Paper" "java/lang/Object") ∈ lw_tbl := lw_m6 (List.mem_of_getElem? (i := 112) rfl)
theorem k_1313 : (Jvm.Cond.castable "Signatory$Power" "java/lang/Object") ∈ lw_tbl := lw_m6 (List.mem_of_getElem? (i := 113) rfl)
theorem k_1314 : (Jvm.Cond.castable "java/lang/UnsupportedOperationException" "java/lang/Object") ∈ lw_tbl := lw_m6 (List.mem_of_getElem? (i := 114) rfl)
theorem k_1315 : (Jvm.Cond.castable "java/util/NoSuchElementException" "java/lang/Object") ∈ lw_tbl := lw_m6 (List.mem_of_getElem? (i := 115) rfl)
theorem k_1316 : (Jvm.Cond.castable "Signatory$Deed" "java/lang/Object") ∈ lw_tbl := lw_m6 (List.mem_of_getElem? (i := 116) rfl)
theorem k_1317 : (Jvm.Cond.castable "java/lang/Throwable" "java/lang/Object") ∈ lw_tbl := lw_m6 (List.mem_of_getElem? (i := 117) rfl)
theorem k_1318 : (Jvm.Cond.castable "java/lang/String" "java/lang/Object") ∈ lw_tbl := lw_m6 (List.mem_of_getElem? (i := 118) rfl)
theorem k_1319 : (Jvm.Cond.sameMethod "[Ljava/lang/Object;" "java/lang/Object" "getClass" "()Ljava/lang/Class;") ∈ lw_tbl := lw_m6 (List.mem_of_getElem? (i := 119) rfl)
theorem k_1320 : (Jvm.Cond.selects "[Ljava/lang/Object;" ({ cls := "java/lang/Object", name := "getClass", desc := "()Ljava/lang/Class;" } : Jvm.MethodName) ({ cls := "java/lang/Object", name := "getClass", desc := "()Ljava/lang/Class;" } : Jvm.MethodName)) ∈ lw_tbl := lw_m6 (List.mem_of_getElem? (i := 120) rfl)
theorem k_1321 : (Jvm.Cond.declares ({ cls := "java/lang/Object", name := "getClass", desc := "()Ljava/lang/Class;" } : Jvm.MethodName)) ∈ lw_tbl := lw_m6 (List.mem_of_getElem? (i := 121) rfl)
theorem k_1322 : (Jvm.Cond.castable "[I" "java/lang/Object") ∈ lw_tbl := lw_m6 (List.mem_of_getElem? (i := 122) rfl)
theorem k_1323 : (Jvm.Cond.castable "[Z" "java/lang/Object") ∈ lw_tbl := lw_m6 (List.mem_of_getElem? (i := 123) rfl)
theorem k_1324 : (Jvm.Cond.castable "[B" "java/lang/Object") ∈ lw_tbl := lw_m6 (List.mem_of_getElem? (i := 124) rfl)
theorem k_1325 : (Jvm.Cond.castable "[Ljava/lang/Object;" "java/lang/Object") ∈ lw_tbl := lw_m6 (List.mem_of_getElem? (i := 125) rfl)
theorem k_1326 : (Jvm.Cond.castable "[C" "java/lang/Object") ∈ lw_tbl := lw_m6 (List.mem_of_getElem? (i := 126) rfl)
theorem k_1327 : (Jvm.Cond.castable "[J" "java/lang/Object") ∈ lw_tbl := lw_m6 (List.mem_of_getElem? (i := 127) rfl)
theorem k_1328 : (Jvm.Cond.castable "[D" "java/lang/Object") ∈ lw_tbl := lw_m6 (List.mem_of_getElem? (i := 128) rfl)
theorem k_1329 : (Jvm.Cond.fieldLink "java/lang/String" (15 : Nat) "java/lang/String" "coder" "B") ∈ lw_tbl := lw_m6 (List.mem_of_getElem? (i := 129) rfl)
theorem k_1330 : (Jvm.Cond.fieldLink "java/lang/String" (9 : Nat) "java/lang/String" "value" "[B") ∈ lw_tbl := lw_m6 (List.mem_of_getElem? (i := 130) rfl)
theorem ks_0 : Cond.selects "java/lang/Throwable" ⟨"java/lang/Throwable", "fillInStackTrace", "(I)Ljava/lang/Throwable;"⟩ ⟨"java/lang/Throwable", "fillInStackTrace", "(I)Ljava/lang/Throwable;"⟩ ∈ lw_tbl := lw_ms (q := (⟨"java/lang/Throwable", "fillInStackTrace", "(I)Ljava/lang/Throwable;"⟩, 6)) (have h : ((⟨"java/lang/Throwable", "fillInStackTrace", "(I)Ljava/lang/Throwable;"⟩, 6) : MethodName × Nat) ∈ lw_privs_1 := List.mem_of_getElem? (i := 0) rfl; show ((⟨"java/lang/Throwable", "fillInStackTrace", "(I)Ljava/lang/Throwable;"⟩, 6) : MethodName × Nat) ∈ lw_privs from List.mem_append_left _ h)
theorem ks_1 : Cond.selects "Signatory" ⟨"Signatory", "requirePerson", "(I)V"⟩ ⟨"Signatory", "requirePerson", "(I)V"⟩ ∈ lw_tbl := lw_ms (q := (⟨"Signatory", "requirePerson", "(I)V"⟩, 6)) (have h : ((⟨"Signatory", "requirePerson", "(I)V"⟩, 6) : MethodName × Nat) ∈ lw_privs_1 := List.mem_of_getElem? (i := 1) rfl; show ((⟨"Signatory", "requirePerson", "(I)V"⟩, 6) : MethodName × Nat) ∈ lw_privs from List.mem_append_left _ h)
theorem ks_2 : Cond.selects "Signatory" ⟨"Signatory", "substituteOrNone", "(I)I"⟩ ⟨"Signatory", "substituteOrNone", "(I)I"⟩ ∈ lw_tbl := lw_ms (q := (⟨"Signatory", "substituteOrNone", "(I)I"⟩, 6)) (have h : ((⟨"Signatory", "substituteOrNone", "(I)I"⟩, 6) : MethodName × Nat) ∈ lw_privs_1 := List.mem_of_getElem? (i := 2) rfl; show ((⟨"Signatory", "substituteOrNone", "(I)I"⟩, 6) : MethodName × Nat) ∈ lw_privs from List.mem_append_left _ h)
theorem ks_3 : Cond.selects "Signatory" ⟨"Signatory", "tell", "(III)V"⟩ ⟨"Signatory", "tell", "(III)V"⟩ ∈ lw_tbl := lw_ms (q := (⟨"Signatory", "tell", "(III)V"⟩, 6)) (have h : ((⟨"Signatory", "tell", "(III)V"⟩, 6) : MethodName × Nat) ∈ lw_privs_1 := List.mem_of_getElem? (i := 3) rfl; show ((⟨"Signatory", "tell", "(III)V"⟩, 6) : MethodName × Nat) ∈ lw_privs from List.mem_append_left _ h)
theorem ks_4 : Cond.selects "java/util/ArrayList" ⟨"java/util/ArrayList", "add", "(Ljava/lang/Object;[Ljava/lang/Object;I)V"⟩ ⟨"java/util/ArrayList", "add", "(Ljava/lang/Object;[Ljava/lang/Object;I)V"⟩ ∈ lw_tbl := lw_ms (q := (⟨"java/util/ArrayList", "add", "(Ljava/lang/Object;[Ljava/lang/Object;I)V"⟩, 3)) (have h : ((⟨"java/util/ArrayList", "add", "(Ljava/lang/Object;[Ljava/lang/Object;I)V"⟩, 3) : MethodName × Nat) ∈ lw_privs_1 := List.mem_of_getElem? (i := 4) rfl; show ((⟨"java/util/ArrayList", "add", "(Ljava/lang/Object;[Ljava/lang/Object;I)V"⟩, 3) : MethodName × Nat) ∈ lw_privs from List.mem_append_left _ h)
theorem ks_5 : Cond.selects "java/util/ArrayList" ⟨"java/util/ArrayList", "grow", "()[Ljava/lang/Object;"⟩ ⟨"java/util/ArrayList", "grow", "()[Ljava/lang/Object;"⟩ ∈ lw_tbl := lw_ms (q := (⟨"java/util/ArrayList", "grow", "()[Ljava/lang/Object;"⟩, 3)) (have h : ((⟨"java/util/ArrayList", "grow", "()[Ljava/lang/Object;"⟩, 3) : MethodName × Nat) ∈ lw_privs_1 := List.mem_of_getElem? (i := 5) rfl; show ((⟨"java/util/ArrayList", "grow", "()[Ljava/lang/Object;"⟩, 3) : MethodName × Nat) ∈ lw_privs from List.mem_append_left _ h)
theorem ks_6 : Cond.selects "java/util/ArrayList" ⟨"java/util/ArrayList", "grow", "(I)[Ljava/lang/Object;"⟩ ⟨"java/util/ArrayList", "grow", "(I)[Ljava/lang/Object;"⟩ ∈ lw_tbl := lw_ms (q := (⟨"java/util/ArrayList", "grow", "(I)[Ljava/lang/Object;"⟩, 3)) (have h : ((⟨"java/util/ArrayList", "grow", "(I)[Ljava/lang/Object;"⟩, 3) : MethodName × Nat) ∈ lw_privs_1 := List.mem_of_getElem? (i := 6) rfl; show ((⟨"java/util/ArrayList", "grow", "(I)[Ljava/lang/Object;"⟩, 3) : MethodName × Nat) ∈ lw_privs from List.mem_append_left _ h)
theorem ks_7 : Cond.selects "Signatory" ⟨"Signatory", "requireRoomForPower", "()V"⟩ ⟨"Signatory", "requireRoomForPower", "()V"⟩ ∈ lw_tbl := lw_ms (q := (⟨"Signatory", "requireRoomForPower", "()V"⟩, 6)) (have h : ((⟨"Signatory", "requireRoomForPower", "()V"⟩, 6) : MethodName × Nat) ∈ lw_privs_1 := List.mem_of_getElem? (i := 7) rfl; show ((⟨"Signatory", "requireRoomForPower", "()V"⟩, 6) : MethodName × Nat) ∈ lw_privs from List.mem_append_left _ h)
theorem ks_8 : Cond.selects "Signatory" ⟨"Signatory", "keepPower", "(LSignatory$Power;I)I"⟩ ⟨"Signatory", "keepPower", "(LSignatory$Power;I)I"⟩ ∈ lw_tbl := lw_ms (q := (⟨"Signatory", "keepPower", "(LSignatory$Power;I)I"⟩, 6)) (have h : ((⟨"Signatory", "keepPower", "(LSignatory$Power;I)I"⟩, 6) : MethodName × Nat) ∈ lw_privs_1 := List.mem_of_getElem? (i := 8) rfl; show ((⟨"Signatory", "keepPower", "(LSignatory$Power;I)I"⟩, 6) : MethodName × Nat) ∈ lw_privs from List.mem_append_left _ h)
theorem ks_9 : Cond.selects "Signatory" ⟨"Signatory", "findPower", "(I)LSignatory$Power;"⟩ ⟨"Signatory", "findPower", "(I)LSignatory$Power;"⟩ ∈ lw_tbl := lw_ms (q := (⟨"Signatory", "findPower", "(I)LSignatory$Power;"⟩, 6)) (have h : ((⟨"Signatory", "findPower", "(I)LSignatory$Power;"⟩, 6) : MethodName × Nat) ∈ lw_privs_1 := List.mem_of_getElem? (i := 9) rfl; show ((⟨"Signatory", "findPower", "(I)LSignatory$Power;"⟩, 6) : MethodName × Nat) ∈ lw_privs from List.mem_append_left _ h)
theorem ks_10 : Cond.selects "Signatory" ⟨"Signatory", "countPowersFrom", "(LSignatory$Power;)I"⟩ ⟨"Signatory", "countPowersFrom", "(LSignatory$Power;)I"⟩ ∈ lw_tbl := lw_ms (q := (⟨"Signatory", "countPowersFrom", "(LSignatory$Power;)I"⟩, 6)) (have h : ((⟨"Signatory", "countPowersFrom", "(LSignatory$Power;)I"⟩, 6) : MethodName × Nat) ∈ lw_privs_1 := List.mem_of_getElem? (i := 10) rfl; show ((⟨"Signatory", "countPowersFrom", "(LSignatory$Power;)I"⟩, 6) : MethodName × Nat) ∈ lw_privs from List.mem_append_left _ h)
theorem ks_11 : Cond.selects "Signatory$Moment" ⟨"Signatory$Moment", "ownFault", "(LSignatory$Power;I)C"⟩ ⟨"Signatory$Moment", "ownFault", "(LSignatory$Power;I)C"⟩ ∈ lw_tbl := lw_ms (q := (⟨"Signatory$Moment", "ownFault", "(LSignatory$Power;I)C"⟩, 6)) (have h : ((⟨"Signatory$Moment", "ownFault", "(LSignatory$Power;I)C"⟩, 6) : MethodName × Nat) ∈ lw_privs_1 := List.mem_of_getElem? (i := 11) rfl; show ((⟨"Signatory$Moment", "ownFault", "(LSignatory$Power;I)C"⟩, 6) : MethodName × Nat) ∈ lw_privs from List.mem_append_left _ h)
theorem ks_12 : Cond.selects "Signatory" ⟨"Signatory", "signsAlone", "(IIILSignatory$Moment;)Z"⟩ ⟨"Signatory", "signsAlone", "(IIILSignatory$Moment;)Z"⟩ ∈ lw_tbl := lw_ms (q := (⟨"Signatory", "signsAlone", "(IIILSignatory$Moment;)Z"⟩, 6)) (have h : ((⟨"Signatory", "signsAlone", "(IIILSignatory$Moment;)Z"⟩, 6) : MethodName × Nat) ∈ lw_privs_1 := List.mem_of_getElem? (i := 12) rfl; show ((⟨"Signatory", "signsAlone", "(IIILSignatory$Moment;)Z"⟩, 6) : MethodName × Nat) ∈ lw_privs from List.mem_append_left _ h)
theorem ks_13 : Cond.selects "Signatory" ⟨"Signatory", "handsOf", "(IIILSignatory$Moment;)I"⟩ ⟨"Signatory", "handsOf", "(IIILSignatory$Moment;)I"⟩ ∈ lw_tbl := lw_ms (q := (⟨"Signatory", "handsOf", "(IIILSignatory$Moment;)I"⟩, 6)) (have h : ((⟨"Signatory", "handsOf", "(IIILSignatory$Moment;)I"⟩, 6) : MethodName × Nat) ∈ lw_privs_1 := List.mem_of_getElem? (i := 13) rfl; show ((⟨"Signatory", "handsOf", "(IIILSignatory$Moment;)I"⟩, 6) : MethodName × Nat) ∈ lw_privs from List.mem_append_left _ h)
theorem ks_14 : Cond.selects "Signatory" ⟨"Signatory", "signTwo", "(IIII)Z"⟩ ⟨"Signatory", "signTwo", "(IIII)Z"⟩ ∈ lw_tbl := lw_ms (q := (⟨"Signatory", "signTwo", "(IIII)Z"⟩, 6)) (have h : ((⟨"Signatory", "signTwo", "(IIII)Z"⟩, 6) : MethodName × Nat) ∈ lw_privs_1 := List.mem_of_getElem? (i := 14) rfl; show ((⟨"Signatory", "signTwo", "(IIII)Z"⟩, 6) : MethodName × Nat) ∈ lw_privs from List.mem_append_left _ h)
theorem ks_15 : Cond.selects "Signatory" ⟨"Signatory", "requireRoomForDeed", "()V"⟩ ⟨"Signatory", "requireRoomForDeed", "()V"⟩ ∈ lw_tbl := lw_ms (q := (⟨"Signatory", "requireRoomForDeed", "()V"⟩, 6)) (have h : ((⟨"Signatory", "requireRoomForDeed", "()V"⟩, 6) : MethodName × Nat) ∈ lw_privs_1 := List.mem_of_getElem? (i := 15) rfl; show ((⟨"Signatory", "requireRoomForDeed", "()V"⟩, 6) : MethodName × Nat) ∈ lw_privs from List.mem_append_left _ h)
theorem ks_16 : Cond.selects "Signatory" ⟨"Signatory", "keepDeed", "(LSignatory$Deed;)I"⟩ ⟨"Signatory", "keepDeed", "(LSignatory$Deed;)I"⟩ ∈ lw_tbl := lw_ms (q := (⟨"Signatory", "keepDeed", "(LSignatory$Deed;)I"⟩, 6)) (have h : ((⟨"Signatory", "keepDeed", "(LSignatory$Deed;)I"⟩, 6) : MethodName × Nat) ∈ lw_privs_2 := List.mem_of_getElem? (i := 0) rfl; show ((⟨"Signatory", "keepDeed", "(LSignatory$Deed;)I"⟩, 6) : MethodName × Nat) ∈ lw_privs from List.mem_append_right _ (List.mem_append_left _ h))
theorem ks_17 : Cond.selects "Signatory" ⟨"Signatory", "addUp", "(LSignatory$Deed;LSignatory$Moment;)I"⟩ ⟨"Signatory", "addUp", "(LSignatory$Deed;LSignatory$Moment;)I"⟩ ∈ lw_tbl := lw_ms (q := (⟨"Signatory", "addUp", "(LSignatory$Deed;LSignatory$Moment;)I"⟩, 6)) (have h : ((⟨"Signatory", "addUp", "(LSignatory$Deed;LSignatory$Moment;)I"⟩, 6) : MethodName × Nat) ∈ lw_privs_2 := List.mem_of_getElem? (i := 1) rfl; show ((⟨"Signatory", "addUp", "(LSignatory$Deed;LSignatory$Moment;)I"⟩, 6) : MethodName × Nat) ∈ lw_privs from List.mem_append_right _ (List.mem_append_left _ h))
theorem ks_18 : Cond.selects "Signatory" ⟨"Signatory", "signersSuffice", "(LSignatory$Deed;ILSignatory$Moment;)Z"⟩ ⟨"Signatory", "signersSuffice", "(LSignatory$Deed;ILSignatory$Moment;)Z"⟩ ∈ lw_tbl := lw_ms (q := (⟨"Signatory", "signersSuffice", "(LSignatory$Deed;ILSignatory$Moment;)Z"⟩, 6)) (have h : ((⟨"Signatory", "signersSuffice", "(LSignatory$Deed;ILSignatory$Moment;)Z"⟩, 6) : MethodName × Nat) ∈ lw_privs_2 := List.mem_of_getElem? (i := 2) rfl; show ((⟨"Signatory", "signersSuffice", "(LSignatory$Deed;ILSignatory$Moment;)Z"⟩, 6) : MethodName × Nat) ∈ lw_privs from List.mem_append_right _ (List.mem_append_left _ h))
theorem ks_19 : Cond.selects "Signatory" ⟨"Signatory", "findLack", "(LSignatory$Deed;)V"⟩ ⟨"Signatory", "findLack", "(LSignatory$Deed;)V"⟩ ∈ lw_tbl := lw_ms (q := (⟨"Signatory", "findLack", "(LSignatory$Deed;)V"⟩, 6)) (have h : ((⟨"Signatory", "findLack", "(LSignatory$Deed;)V"⟩, 6) : MethodName × Nat) ∈ lw_privs_2 := List.mem_of_getElem? (i := 3) rfl; show ((⟨"Signatory", "findLack", "(LSignatory$Deed;)V"⟩, 6) : MethodName × Nat) ∈ lw_privs from List.mem_append_right _ (List.mem_append_left _ h))
theorem ks_20 : Cond.selects "Signatory" ⟨"Signatory", "signersActBy", "(LSignatory$Power;LSignatory$Deed;)Z"⟩ ⟨"Signatory", "signersActBy", "(LSignatory$Power;LSignatory$Deed;)Z"⟩ ∈ lw_tbl := lw_ms (q := (⟨"Signatory", "signersActBy", "(LSignatory$Power;LSignatory$Deed;)Z"⟩, 6)) (have h : ((⟨"Signatory", "signersActBy", "(LSignatory$Power;LSignatory$Deed;)Z"⟩, 6) : MethodName × Nat) ∈ lw_privs_2 := List.mem_of_getElem? (i := 4) rfl; show ((⟨"Signatory", "signersActBy", "(LSignatory$Power;LSignatory$Deed;)Z"⟩, 6) : MethodName × Nat) ∈ lw_privs from List.mem_append_right _ (List.mem_append_left _ h))
theorem ks_21 : Cond.selects "Signatory" ⟨"Signatory", "noteLack", "(LSignatory$Deed;LSignatory$Power;)V"⟩ ⟨"Signatory", "noteLack", "(LSignatory$Deed;LSignatory$Power;)V"⟩ ∈ lw_tbl := lw_ms (q := (⟨"Signatory", "noteLack", "(LSignatory$Deed;LSignatory$Power;)V"⟩, 6)) (have h : ((⟨"Signatory", "noteLack", "(LSignatory$Deed;LSignatory$Power;)V"⟩, 6) : MethodName × Nat) ∈ lw_privs_2 := List.mem_of_getElem? (i := 5) rfl; show ((⟨"Signatory", "noteLack", "(LSignatory$Deed;LSignatory$Power;)V"⟩, 6) : MethodName × Nat) ∈ lw_privs from List.mem_append_right _ (List.mem_append_left _ h))
theorem ks_22 : Cond.selects "Signatory" ⟨"Signatory", "findDeed", "(I)LSignatory$Deed;"⟩ ⟨"Signatory", "findDeed", "(I)LSignatory$Deed;"⟩ ∈ lw_tbl := lw_ms (q := (⟨"Signatory", "findDeed", "(I)LSignatory$Deed;"⟩, 6)) (have h : ((⟨"Signatory", "findDeed", "(I)LSignatory$Deed;"⟩, 6) : MethodName × Nat) ∈ lw_privs_2 := List.mem_of_getElem? (i := 6) rfl; show ((⟨"Signatory", "findDeed", "(I)LSignatory$Deed;"⟩, 6) : MethodName × Nat) ∈ lw_privs from List.mem_append_right _ (List.mem_append_left _ h))
theorem ks_23 : Cond.selects "Signatory" ⟨"Signatory", "countWaiting", "()I"⟩ ⟨"Signatory", "countWaiting", "()I"⟩ ∈ lw_tbl := lw_ms (q := (⟨"Signatory", "countWaiting", "()I"⟩, 6)) (have h : ((⟨"Signatory", "countWaiting", "()I"⟩, 6) : MethodName × Nat) ∈ lw_privs_2 := List.mem_of_getElem? (i := 7) rfl; show ((⟨"Signatory", "countWaiting", "()I"⟩, 6) : MethodName × Nat) ∈ lw_privs from List.mem_append_right _ (List.mem_append_left _ h))
theorem ks_24 : Cond.selects "Signatory" ⟨"Signatory", "lookBack", "(II)V"⟩ ⟨"Signatory", "lookBack", "(II)V"⟩ ∈ lw_tbl := lw_ms (q := (⟨"Signatory", "lookBack", "(II)V"⟩, 6)) (have h : ((⟨"Signatory", "lookBack", "(II)V"⟩, 6) : MethodName × Nat) ∈ lw_privs_2 := List.mem_of_getElem? (i := 8) rfl; show ((⟨"Signatory", "lookBack", "(II)V"⟩, 6) : MethodName × Nat) ∈ lw_privs from List.mem_append_right _ (List.mem_append_left _ h))
theorem ks_25 : Cond.selects "SignatoryModel" ⟨"SignatoryModel", "isThrown", "(ZI)Z"⟩ ⟨"SignatoryModel", "isThrown", "(ZI)Z"⟩ ∈ lw_tbl := lw_ms (q := (⟨"SignatoryModel", "isThrown", "(ZI)Z"⟩, 26)) (have h : ((⟨"SignatoryModel", "isThrown", "(ZI)Z"⟩, 26) : MethodName × Nat) ∈ lw_privs_2 := List.mem_of_getElem? (i := 9) rfl; show ((⟨"SignatoryModel", "isThrown", "(ZI)Z"⟩, 26) : MethodName × Nat) ∈ lw_privs from List.mem_append_right _ (List.mem_append_left _ h))
theorem ks_26 : Cond.selects "SignatoryModel" ⟨"SignatoryModel", "isNobody", "(I)Z"⟩ ⟨"SignatoryModel", "isNobody", "(I)Z"⟩ ∈ lw_tbl := lw_ms (q := (⟨"SignatoryModel", "isNobody", "(I)Z"⟩, 26)) (have h : ((⟨"SignatoryModel", "isNobody", "(I)Z"⟩, 26) : MethodName × Nat) ∈ lw_privs_2 := List.mem_of_getElem? (i := 10) rfl; show ((⟨"SignatoryModel", "isNobody", "(I)Z"⟩, 26) : MethodName × Nat) ∈ lw_privs from List.mem_append_right _ (List.mem_append_left _ h))
theorem ks_27 : Cond.selects "SignatoryModel" ⟨"SignatoryModel", "acts", "(II)Z"⟩ ⟨"SignatoryModel", "acts", "(II)Z"⟩ ∈ lw_tbl := lw_ms (q := (⟨"SignatoryModel", "acts", "(II)Z"⟩, 26)) (have h : ((⟨"SignatoryModel", "acts", "(II)Z"⟩, 26) : MethodName × Nat) ∈ lw_privs_2 := List.mem_of_getElem? (i := 11) rfl; show ((⟨"SignatoryModel", "acts", "(II)Z"⟩, 26) : MethodName × Nat) ∈ lw_privs from List.mem_append_right _ (List.mem_append_left _ h))
theorem ks_28 : Cond.selects "SignatoryModel" ⟨"SignatoryModel", "adds", "(IICIIII)I"⟩ ⟨"SignatoryModel", "adds", "(IICIIII)I"⟩ ∈ lw_tbl := lw_ms (q := (⟨"SignatoryModel", "adds", "(IICIIII)I"⟩, 26)) (have h : ((⟨"SignatoryModel", "adds", "(IICIIII)I"⟩, 26) : MethodName × Nat) ∈ lw_privs_2 := List.mem_of_getElem? (i := 12) rfl; show ((⟨"SignatoryModel", "adds", "(IICIIII)I"⟩, 26) : MethodName × Nat) ∈ lw_privs from List.mem_append_right _ (List.mem_append_left _ h))
theorem ks_29 : Cond.selects "SignatoryModel" ⟨"SignatoryModel", "isNoPower", "(I)Z"⟩ ⟨"SignatoryModel", "isNoPower", "(I)Z"⟩ ∈ lw_tbl := lw_ms (q := (⟨"SignatoryModel", "isNoPower", "(I)Z"⟩, 26)) (have h : ((⟨"SignatoryModel", "isNoPower", "(I)Z"⟩, 26) : MethodName × Nat) ∈ lw_privs_2 := List.mem_of_getElem? (i := 13) rfl; show ((⟨"SignatoryModel", "isNoPower", "(I)Z"⟩, 26) : MethodName × Nat) ∈ lw_privs from List.mem_append_right _ (List.mem_append_left _ h))
theorem ks_30 : Cond.selects "SignatoryModel" ⟨"SignatoryModel", "comesFrom", "(II)Z"⟩ ⟨"SignatoryModel", "comesFrom", "(II)Z"⟩ ∈ lw_tbl := lw_ms (q := (⟨"SignatoryModel", "comesFrom", "(II)Z"⟩, 26)) (have h : ((⟨"SignatoryModel", "comesFrom", "(II)Z"⟩, 26) : MethodName × Nat) ∈ lw_privs_2 := List.mem_of_getElem? (i := 14) rfl; show ((⟨"SignatoryModel", "comesFrom", "(II)Z"⟩, 26) : MethodName × Nat) ∈ lw_privs from List.mem_append_right _ (List.mem_append_left _ h))
theorem ks_31 : Cond.selects "SignatoryModel" ⟨"SignatoryModel", "isNoSum", "(II)Z"⟩ ⟨"SignatoryModel", "isNoSum", "(II)Z"⟩ ∈ lw_tbl := lw_ms (q := (⟨"SignatoryModel", "isNoSum", "(II)Z"⟩, 26)) (have h : ((⟨"SignatoryModel", "isNoSum", "(II)Z"⟩, 26) : MethodName × Nat) ∈ lw_privs_2 := List.mem_of_getElem? (i := 15) rfl; show ((⟨"SignatoryModel", "isNoSum", "(II)Z"⟩, 26) : MethodName × Nat) ∈ lw_privs from List.mem_append_right _ (List.mem_append_left _ h))
theorem ks_32 : Cond.selects "SignatoryModel" ⟨"SignatoryModel", "faulty", "(II)C"⟩ ⟨"SignatoryModel", "faulty", "(II)C"⟩ ∈ lw_tbl := lw_ms (q := (⟨"SignatoryModel", "faulty", "(II)C"⟩, 26)) (have h : ((⟨"SignatoryModel", "faulty", "(II)C"⟩, 26) : MethodName × Nat) ∈ lw_privs_3 := List.mem_of_getElem? (i := 0) rfl; show ((⟨"SignatoryModel", "faulty", "(II)C"⟩, 26) : MethodName × Nat) ∈ lw_privs from List.mem_append_right _ (List.mem_append_right _ (h)))
theorem ks_33 : Cond.selects "SignatoryModel" ⟨"SignatoryModel", "isNoAsk", "(III)Z"⟩ ⟨"SignatoryModel", "isNoAsk", "(III)Z"⟩ ∈ lw_tbl := lw_ms (q := (⟨"SignatoryModel", "isNoAsk", "(III)Z"⟩, 26)) (have h : ((⟨"SignatoryModel", "isNoAsk", "(III)Z"⟩, 26) : MethodName × Nat) ∈ lw_privs_3 := List.mem_of_getElem? (i := 1) rfl; show ((⟨"SignatoryModel", "isNoAsk", "(III)Z"⟩, 26) : MethodName × Nat) ∈ lw_privs from List.mem_append_right _ (List.mem_append_right _ (h)))
theorem ks_34 : Cond.selects "SignatoryModel" ⟨"SignatoryModel", "has", "(IICI)Z"⟩ ⟨"SignatoryModel", "has", "(IICI)Z"⟩ ∈ lw_tbl := lw_ms (q := (⟨"SignatoryModel", "has", "(IICI)Z"⟩, 26)) (have h : ((⟨"SignatoryModel", "has", "(IICI)Z"⟩, 26) : MethodName × Nat) ∈ lw_privs_3 := List.mem_of_getElem? (i := 2) rfl; show ((⟨"SignatoryModel", "has", "(IICI)Z"⟩, 26) : MethodName × Nat) ∈ lw_privs from List.mem_append_right _ (List.mem_append_right _ (h)))
theorem ks_35 : Cond.selects "SignatoryModel" ⟨"SignatoryModel", "canTogether", "(IIII)Z"⟩ ⟨"SignatoryModel", "canTogether", "(IIII)Z"⟩ ∈ lw_tbl := lw_ms (q := (⟨"SignatoryModel", "canTogether", "(IIII)Z"⟩, 26)) (have h : ((⟨"SignatoryModel", "canTogether", "(IIII)Z"⟩, 26) : MethodName × Nat) ∈ lw_privs_3 := List.mem_of_getElem? (i := 3) rfl; show ((⟨"SignatoryModel", "canTogether", "(IIII)Z"⟩, 26) : MethodName × Nat) ∈ lw_privs from List.mem_append_right _ (List.mem_append_right _ (h)))
theorem ks_36 : Cond.selects "SignatoryModel" ⟨"SignatoryModel", "isNoDeed", "(III)Z"⟩ ⟨"SignatoryModel", "isNoDeed", "(III)Z"⟩ ∈ lw_tbl := lw_ms (q := (⟨"SignatoryModel", "isNoDeed", "(III)Z"⟩, 26)) (have h : ((⟨"SignatoryModel", "isNoDeed", "(III)Z"⟩, 26) : MethodName × Nat) ∈ lw_privs_3 := List.mem_of_getElem? (i := 4) rfl; show ((⟨"SignatoryModel", "isNoDeed", "(III)Z"⟩, 26) : MethodName × Nat) ∈ lw_privs from List.mem_append_right _ (List.mem_append_right _ (h)))
theorem ks_37 : Cond.selects "SignatoryModel" ⟨"SignatoryModel", "signed", "(IIIII)I"⟩ ⟨"SignatoryModel", "signed", "(IIIII)I"⟩ ∈ lw_tbl := lw_ms (q := (⟨"SignatoryModel", "signed", "(IIIII)I"⟩, 26)) (have h : ((⟨"SignatoryModel", "signed", "(IIIII)I"⟩, 26) : MethodName × Nat) ∈ lw_privs_3 := List.mem_of_getElem? (i := 5) rfl; show ((⟨"SignatoryModel", "signed", "(IIIII)I"⟩, 26) : MethodName × Nat) ∈ lw_privs from List.mem_append_right _ (List.mem_append_right _ (h)))
theorem ks_38 : Cond.selects "SignatoryModel" ⟨"SignatoryModel", "added", "(III)I"⟩ ⟨"SignatoryModel", "added", "(III)I"⟩ ∈ lw_tbl := lw_ms (q := (⟨"SignatoryModel", "added", "(III)I"⟩, 26)) (have h : ((⟨"SignatoryModel", "added", "(III)I"⟩, 26) : MethodName × Nat) ∈ lw_privs_3 := List.mem_of_getElem? (i := 6) rfl; show ((⟨"SignatoryModel", "added", "(III)I"⟩, 26) : MethodName × Nat) ∈ lw_privs from List.mem_append_right _ (List.mem_append_right _ (h)))
theorem ks_39 : Cond.selects "SignatoryModel" ⟨"SignatoryModel", "lacks", "(III)V"⟩ ⟨"SignatoryModel", "lacks", "(III)V"⟩ ∈ lw_tbl := lw_ms (q := (⟨"SignatoryModel", "lacks", "(III)V"⟩, 26)) (have h : ((⟨"SignatoryModel", "lacks", "(III)V"⟩, 26) : MethodName × Nat) ∈ lw_privs_3 := List.mem_of_getElem? (i := 7) rfl; show ((⟨"SignatoryModel", "lacks", "(III)V"⟩, 26) : MethodName × Nat) ∈ lw_privs from List.mem_append_right _ (List.mem_append_right _ (h)))
theorem ks_40 : Cond.selects "SignatoryModel" ⟨"SignatoryModel", "isNoDeed", "(I)Z"⟩ ⟨"SignatoryModel", "isNoDeed", "(I)Z"⟩ ∈ lw_tbl := lw_ms (q := (⟨"SignatoryModel", "isNoDeed", "(I)Z"⟩, 26)) (have h : ((⟨"SignatoryModel", "isNoDeed", "(I)Z"⟩, 26) : MethodName × Nat) ∈ lw_privs_3 := List.mem_of_getElem? (i := 8) rfl; show ((⟨"SignatoryModel", "isNoDeed", "(I)Z"⟩, 26) : MethodName × Nat) ∈ lw_privs from List.mem_append_right _ (List.mem_append_right _ (h)))
theorem ks_41 : Cond.selects "SignatoryModel" ⟨"SignatoryModel", "isGood", "(I)Z"⟩ ⟨"SignatoryModel", "isGood", "(I)Z"⟩ ∈ lw_tbl := lw_ms (q := (⟨"SignatoryModel", "isGood", "(I)Z"⟩, 26)) (have h : ((⟨"SignatoryModel", "isGood", "(I)Z"⟩, 26) : MethodName × Nat) ∈ lw_privs_3 := List.mem_of_getElem? (i := 9) rfl; show ((⟨"SignatoryModel", "isGood", "(I)Z"⟩, 26) : MethodName × Nat) ∈ lw_privs from List.mem_append_right _ (List.mem_append_right _ (h)))
end
section
/-! RULES: one judgement for all methods ('gM': returns or throws, the words come from the law's start), and a rule a call -/
abbrev gV : Type := Nat × State × va_G × (Nat → ClassId)
/-- the array types -/
def gT (y : Nat → ClassId) : List (ClassId × FieldType) := [(y 0, .int), (y 1, .boolean), (y 2, .char), (y 3, .object "java/lang/Object"), (y 4, .long), (y 5, .double)]
/-- the law's start -/
def gOK (l : Launch) (E : gV) : Prop := l.stackTraces = false ∧ (∀ w ∈ lw_tbl, w.before #[Value.ref E.1] E.2.1 = true) ∧ (Jvm.Cond.and given_1 narrow_1).before #[Value.ref E.1] E.2.1 = true ∧ va_K E.2.2.1 vwCl (gT E.2.2.2) E.2.1
def gC (l : Launch) (E : gV) (p : Program) (s : State) (m : MethodId) (meth : Method) (c : Code) (own : String) (cc : ByteArray) (nL : Nat) : Prop :=
  gOK l E ∧ E.2.1.WarmedH s.vm ∧ p.tables.exec = Jvm.exec ∧ c.code = cc ∧ c.maxLocals = nL ∧ s.vm.findClass own = some m.cls ∧ meth.locks = false
theorem gw {l : Launch} {E : gV} {s : State} {args : Array Value} {w : Cond} (h : gOK l E) (hW : E.2.1.WarmedH s.vm) (hm : w ∈ lw_tbl) (hg : goodWord w = true) : w.before args s = true := word_at hW (good_of_word hg) (h.2.1 w hm)
theorem gK {l : Launch} {E : gV} {s : State} (h : gOK l E) (hW : E.2.1.WarmedH s.vm) : va_K E.2.2.1 vwCl (gT E.2.2.2) s := va_K.moved hW.alike h.2.2.2
def gN : Nat → Prop := fun _ => False
def gX (px : String → Prop) : String → State → State → Prop := fun E st t => px E ∧ st.heap.size ≤ t.heap.size ∧ ∀ q : Nat, q < st.heap.size → t.heap[q]? = st.heap[q]?
def gQR (post : Option Value → Prop) : Array Value → State → Outcome → State → Prop := fun _ st oc t => ∃ v, oc = .returned v ∧ post v ∧ t.heap = st.heap
def gQW (A : Nat → Prop) (post : Option Value → Heap → Prop) : Array Value → State → Outcome → State → Prop := fun _ st oc t => ∃ v, oc = .returned v ∧ post v t.heap ∧ va_F A st t
def gPi (P : Int32 → Prop) : Option Value → Prop := fun v => ∃ r, v = some (.int r) ∧ P r
def gPr (P : Nat → Prop) : Option Value → Prop := fun v => ∃ r, v = some (.ref r) ∧ P r
def gPl (P : Int64 → Prop) : Option Value → Prop := fun v => ∃ r, v = some (.long r) ∧ P r
def gPf (P : UInt32 → Prop) : Option Value → Prop := fun v => ∃ r, v = some (.float r) ∧ P r
def gPv (P : Prop) : Option Value → Prop := fun v => v = none ∧ P
def gWi (P : Int32 → Heap → Prop) : Option Value → Heap → Prop := fun v H => ∃ r, v = some (.int r) ∧ P r H
def gWr (P : Nat → Heap → Prop) : Option Value → Heap → Prop := fun v H => ∃ r, v = some (.ref r) ∧ P r H
def gWl (P : Int64 → Heap → Prop) : Option Value → Heap → Prop := fun v H => ∃ r, v = some (.long r) ∧ P r H
def gWf (P : UInt32 → Heap → Prop) : Option Value → Heap → Prop := fun v H => ∃ r, v = some (.float r) ∧ P r H
def gWv (P : Heap → Prop) : Option Value → Heap → Prop := fun v H => v = none ∧ P H
/-- a method's contract -/
def gM (l : Launch) (E : gV) (y : MethodName) (cc : ByteArray) (nL : Nat) (ret : Option FieldType) (rm : Room) (av : List Value) (Pre : Heap → Prop) (Qc : Array Value → State → Outcome → State → Prop) (px : String → Prop) (A : Nat → Prop) : Prop :=
  vx_Met l y [Cond.code y cc nL ret] rm (va_Pc av (fun U => E.2.1.WarmedH U.vm ∧ Pre U.heap)) Qc (gX px) rm.cells rm.slots A
/-- its body -/
theorem gM_body {l : Launch} {E : gV} {y : MethodName} {cc : ByteArray} {nL : Nat} {ret : Option FieldType} {rm : Room} {av : List Value} {Pre : Heap → Prop} {Qc : Array Value → State → Outcome → State → Prop} {px : String → Prop} {A : Nat → Prop}
    (hE : gOK l E) (hy : plainName y.cls = true) (hlen : (lg_sl av).length ≤ nL)
    (body : ∀ (p : Program) (e : Env) (s : State) (m : MethodId) (args : Array Value) (below : List Frame) (meth : Method) (c : Code), gC l E p s m meth c y.cls cc nL → (∀ x ∈ c.exceptionTable.toList, False) → meth.sig.returnType = ret → meth.name = y.name → Pre s.heap →
      ∀ ls : Array Slot, lv_has ls nL (lv_args 0 av) → W p l e rm s m args below meth c s.heap [] 0 0 (vx_MQ below Qc (gX px) args s rm.cells rm.slots A) (F0 m 0 ls [])) : gM l E y cc nL ret rm av Pre Qc px A := by
  refine vx_ofW (cc := cc) (maxL := nL) (ret := ret) (ws' := []) hy rfl ?_
  intro p e s m args below meth c s₁ B hml ht hv
  obtain ⟨rfl, hW, hP⟩ := hv
  have hl := lv_entry av (n := nL) hlen
  rw [lg_entry_eq]
  exact body p e s m _ below meth c ⟨hE, hW, B.exec, B.bytes, hml, findClass_of_methodNamed B.named, B.notSynchronized⟩ ht B.returns (name_of_methodNamed B.named B.method).1 hP _ hl
section CALLS
variable {p : Program} {l : Launch} {e : Env} {R : Room} {s : State} {m : MethodId} {args : Array Value} {below : List Frame} {meth : Method} {c : Code} {H : Heap} {locs : List Loc} {cells slots : Nat} {Q : State → Prop}
variable {E : gV} {own : String} {cc cb : ByteArray} {nL nY n index : Nat} {y : MethodName} {ret : Option FieldType} {rm : Room} {Pre : Heap → Prop} {Qc : Array Value → State → Outcome → State → Prop} {px : String → Prop} {A : Nat → Prop} {b : Nat} {As rest : List Value} {pc : Nat} {ls : Array Slot} {st0 : List Value}
/-- what a callee's tables say, once a callee -/
def gY (y : MethodName) (cb : ByteArray) (nY : Nat) (ret : Option FieldType) (n : Nat) : Prop :=
  Cond.initialized y.cls ∈ lw_tbl ∧ Cond.code y cb nY ret ∈ lw_tbl ∧ (y.cls ≠ "java/lang/invoke/MethodHandle" ∧ y.cls ≠ "java/lang/invoke/VarHandle" ∧ (parseMethodDescriptor y.desc).map (fun d => d.parameters.length) = some n)
theorem g_callB (hC : gC l E p s m meth c own cc nL) (hy : gY y cb nY ret n) (hk : Cond.methodLink own index y ∈ lw_tbl) (hR : rm.frames + 1 ≤ R.frames ∧ 8 + (nY + 11) + rm.locals ≤ R.locals) : CallB R s args own index y cb nY ret [Cond.code y cb nY ret] rm rm.cells rm.slots n := by
  obtain ⟨hE, hW, -⟩ := hC
  obtain ⟨h1, h2, h3⟩ := hy
  refine callB_of (ws' := []) (Ts := [Cond.code y cb nY ret]) n (fun w hw => ?_) (goodIn_sub (fun _ h => h) rfl) rfl rfl rfl (gw hE hW h1 rfl) (gw hE hW hk rfl) h3 hR
  rw [List.mem_singleton.mp hw]
  exact gw hE hW h2 rfl
theorem g_pre {av : List Value} (hC : gC l E p s m meth c own cc nL) (hP : Pre H) : ∀ U : State, U.heap = H → s.WarmedH U.vm → va_Pc av (fun U => E.2.1.WarmedH U.vm ∧ Pre U.heap) av.toArray U := fun U hU hW => ⟨rfl, State.WarmedH.trans hC.2.1 hW, by rw [hU]; exact hP⟩
theorem g_blind {av : List Value} : FrameBlind (va_Pc av (fun U => E.2.1.WarmedH U.vm ∧ Pre U.heap)) := fun _ _ _ _ h => h
/-- a static call -/
theorem g_runS (hC : gC l E p s m meth c own cc nL) (hM : gM l E y cb nY ret rm As Pre Qc px A) (hy : gY y cb nY ret n) (hk : Cond.methodLink own index y ∈ lw_tbl) (hs : Cond.static y ∈ lw_tbl) (hP : Pre H) (hn : As.length = n) (hls : ls.size = nL) (hdg : decode cc pc = .ok (.invokestatic index, 3))
    (hR : rm.frames + 1 ≤ R.frames ∧ 8 + (nY + 11) + rm.locals ≤ R.locals) (hf : cells + rm.cells ≤ R.cells ∧ slots + rm.slots ≤ R.slots) (hst : st0 = As.reverse ++ rest) (hW8 : (rest.map fun v => v.category).sum ≤ 8) :
    vx_Run p l e R s m args below meth c H locs cells slots rm.cells rm.slots (F0 m pc ls st0) rest (Qc As.toArray) (gX px) A :=
  vx_runS (Ts := []) ⟨hC.2.2.1, hC.2.2.2.1, hC.2.2.2.2.1, hC.2.2.2.2.2.1, fun w h => nomatch h⟩ hM ⟨g_callB hC hy hk hR, gw hC.1 hC.2.1 hs rfl⟩ ⟨g_blind, g_pre hC hP⟩ rfl hn hls hst (lv_room (pc := pc) (ls := ls) (rest := st0) (m := m) hW8) hdg hf
/-- a virtual call: the receiver's class is the one that declares it -/
theorem g_runV {ci : Nat} {fs : List Value} {T : u_T} {N : Nat} (hC : gC l E p s m meth c own cc nL) (hM : gM l E y cb nY ret rm (.ref b :: As) Pre Qc px A) (hy : gY y cb nY ret n) (hk : Cond.methodLink own index y ∈ lw_tbl) (hi : Cond.instanceMethod y ∈ lw_tbl) (hse : Cond.selects y.cls y y ∈ lw_tbl)
    (hb : va_at E.2.2.1 vwCl (b, .inr (ci, fs)) H) (hc : vwCl[ci]? = some (y.cls, T, N)) (hP : Pre H) (hn : As.length = n) (hls : ls.size = nL) (hdg : decode cc pc = .ok (.invokevirtual index, 3))
    (hR : rm.frames + 1 ≤ R.frames ∧ 8 + (nY + 11) + rm.locals ≤ R.locals) (hf : cells + rm.cells ≤ R.cells ∧ slots + rm.slots ≤ R.slots) (hst : st0 = As.reverse ++ .ref b :: rest) (hW8 : (rest.map fun v => v.category).sum ≤ 8) :
    vx_Run p l e R s m args below meth c H locs cells slots rm.cells rm.slots (F0 m pc ls st0) rest (Qc (Value.ref b :: As).toArray) (gX px) A :=
  vx_runV (Ts := []) (C := y.cls) ⟨hC.2.2.1, hC.2.2.2.1, hC.2.2.2.2.1, hC.2.2.2.2.2.1, fun w h => nomatch h⟩ hM ⟨g_callB hC hy hk hR, gw hC.1 hC.2.1 hi rfl, gw hC.1 hC.2.1 hse rfl⟩
    ⟨g_blind, va_recv (ws := [(b, .inr (ci, fs))]) (q0 := 0) (gK hC.1 hC.2.1) (fun k q h => by
      cases k with
      | zero => cases h; exact hb
      | succ k => cases h) hc rfl, g_pre hC hP⟩ rfl hn hls hst (lv_room (pc := pc) (ls := ls) (rest := st0) (m := m) hW8) hdg hf
/-- a constructor's call -/
theorem g_runI (hC : gC l E p s m meth c own cc nL) (hM : gM l E y cb nY none rm (.ref b :: As) Pre Qc px A) (hy : gY y cb nY none n) (hk : Cond.methodLink own index y ∈ lw_tbl) (hi : Cond.instanceMethod y ∈ lw_tbl) (hnm : y.name = "<init>")
    (hP : Pre H) (hn : As.length = n) (hls : ls.size = nL) (hdg : decode cc pc = .ok (.invokespecial index, 3))
    (hR : rm.frames + 1 ≤ R.frames ∧ 8 + (nY + 11) + rm.locals ≤ R.locals) (hf : cells + rm.cells ≤ R.cells ∧ slots + rm.slots ≤ R.slots) (hst : st0 = As.reverse ++ .ref b :: rest) (hW8 : (rest.map fun v => v.category).sum ≤ 8) :
    vx_Run p l e R s m args below meth c H locs cells slots rm.cells rm.slots (F0 m pc ls st0) rest (Qc (Value.ref b :: As).toArray) (gX px) A :=
  vx_runI (Ts := []) ⟨hC.2.2.1, hC.2.2.2.1, hC.2.2.2.2.1, hC.2.2.2.2.2.1, fun w h => nomatch h⟩ hM ⟨g_callB hC hy hk hR, hnm, gw hC.1 hC.2.1 hi rfl⟩ ⟨g_blind, g_pre hC hP⟩ rfl hn hls hst (lv_room (pc := pc) (ls := ls) (rest := st0) (m := m) hW8) hdg hf
/-- what a callee that has thrown leaves to show -/
def gKx (p : Program) (l : Launch) (e : Env) (R : Room) (s : State) (m : MethodId) (args : Array Value) (below : List Frame) (meth : Method) (c : Code) (H : Heap) (locs : List Loc) (cells slots : Nat) (Q : State → Prop) (g : JFrame) (px : String → Prop) : Prop :=
  ∀ (X : String) (ce : Cell) (q : Addr) (H1 : Heap), px X → H.size ≤ H1.size → (∀ a : Nat, a < H.size → H1[a]? = H[a]?) → H1[q]? = some ce → ce.vm = .none → s.vm.findClass X = some ce.cls → vx_W p l e R s m args below meth c H1 locs cells slots Q g q
theorem g_no {cells slots : Nat} {g : JFrame} : gKx p l e R s m args below meth c H locs cells slots Q g (fun _ => False) := fun _ _ _ _ h => h.elim
/-- no handler here: on to the caller -/
theorem g_up {Qc' : Array Value → State → Outcome → State → Prop} {px' : String → Prop} {A' : Nat → Prop} {mc ms : Nat} (hC : gC l E p s m meth c own cc nL) (ht : ∀ x ∈ c.exceptionTable.toList, False) (h : ∀ X, px X → px' X) (h1 : cells ≤ mc) (h2 : slots ≤ ms) :
    gKx p l e R s m args below meth c s.heap [] cells slots (vx_MQ below Qc' (gX px') args s mc ms A') (F0 m pc ls rest) px := fun X ce q H1 hp hz hk hq hv hc =>
  vx_out (fun x hx => (ht x hx).elim) hC.2.2.2.2.2.2 hq hv hc (fun t e1 _ => ⟨h X hp, by rw [e1]; exact hz, fun a ha => by rw [e1]; exact hk a ha⟩) (fun z hz => nomatch hz) h1 h2
theorem gL_nil {L : List Loc} (h : ∀ q ∈ L, gN q.base) : L = [] := by
  cases L with
  | nil => rfl
  | cons a L => exact (h a List.mem_cons_self).elim
theorem g_cR {post : Option Value → Prop} {a : Array Value} {mc ms : Nat} (hr : vx_Run p l e R s m args below meth c H locs cells slots mc ms (F0 m pc ls st0) rest (gQR post a) (gX px) gN)
    (kx : gKx p l e R s m args below meth c H locs (cells + mc) (slots + ms) Q (F0 m pc ls rest) px)
    (kk : ∀ v : Option Value, post v → W p l e R s m args below meth c H locs (cells + mc) (slots + ms) Q (F0 m (pc + 3) ls (v.toList ++ rest))) : W p l e R s m args below meth c H locs cells slots Q (F0 m pc ls st0) := by
  intro T hT X
  rcases hr T hT X with ⟨v, st₀, t, T', L, h0, X', hL, e1, e2, ⟨v', hv, hp, hh⟩, st⟩ | ⟨q, st₀, t, T', L, E', ce, h0, X', hL, e1, e2, ⟨hp, hz, hk⟩, hce, hcv, hcl, st⟩
  · cases hv
    have hL' := gL_nil hL
    subst hL'
    rw [List.append_nil] at X'
    obtain ⟨t2, a1, b1⟩ := kk _ hp T' (by rw [e1, hh, h0]) X'
    exact ⟨t2, st t2 a1, b1⟩
  · have hL' := gL_nil hL
    subst hL'
    rw [List.append_nil] at X'
    rw [h0] at hz hk
    obtain ⟨t2, a1, b1⟩ := kx E' ce q T'.heap hp (by rw [e1]; exact hz) (fun a ha => by rw [e1]; exact hk a ha) (by rw [e1]; exact hce) hcv hcl T' rfl X'
    exact ⟨t2, st.trans a1, b1⟩
theorem g_cRi {P : Int32 → Prop} {a : Array Value} {mc ms k2 n2 : Nat} (hr : vx_Run p l e R s m args below meth c H locs cells slots mc ms (F0 m pc ls st0) rest (gQR (gPi P) a) (gX px) gN)
    (hc : cells + mc = k2) (hs : slots + ms = n2) (kx : gKx p l e R s m args below meth c H locs k2 n2 Q (F0 m pc ls rest) px)
    (kk : ∀ r : Int32, P r → W p l e R s m args below meth c H locs k2 n2 Q (F0 m (pc + 3) ls (.int r :: rest))) : W p l e R s m args below meth c H locs cells slots Q (F0 m pc ls st0) := by
  subst hc hs
  exact g_cR hr kx (fun v h => by obtain ⟨r, rfl, h⟩ := h; exact kk r h)
theorem g_cRr {P : Nat → Prop} {a : Array Value} {mc ms k2 n2 : Nat} (hr : vx_Run p l e R s m args below meth c H locs cells slots mc ms (F0 m pc ls st0) rest (gQR (gPr P) a) (gX px) gN)
    (hc : cells + mc = k2) (hs : slots + ms = n2) (kx : gKx p l e R s m args below meth c H locs k2 n2 Q (F0 m pc ls rest) px)
    (kk : ∀ r : Nat, P r → W p l e R s m args below meth c H locs k2 n2 Q (F0 m (pc + 3) ls (.ref r :: rest))) : W p l e R s m args below meth c H locs cells slots Q (F0 m pc ls st0) := by
  subst hc hs
  exact g_cR hr kx (fun v h => by obtain ⟨r, rfl, h⟩ := h; exact kk r h)
theorem g_cRv {P : Prop} {a : Array Value} {mc ms k2 n2 : Nat} (hr : vx_Run p l e R s m args below meth c H locs cells slots mc ms (F0 m pc ls st0) rest (gQR (gPv P) a) (gX px) gN)
    (hc : cells + mc = k2) (hs : slots + ms = n2) (kx : gKx p l e R s m args below meth c H locs k2 n2 Q (F0 m pc ls rest) px)
    (kk : P → W p l e R s m args below meth c H locs k2 n2 Q (F0 m (pc + 3) ls rest)) : W p l e R s m args below meth c H locs cells slots Q (F0 m pc ls st0) := by
  subst hc hs
  exact g_cR hr kx (fun v h => by obtain ⟨rfl, h⟩ := h; exact kk h)
end CALLS
end
section
/-! HEAP RULES: a cell is 'gA E a x H': the cell of the address a is x (an object: its class's place in vwCl and its fields; an array: its class, its length, its row) -/
def gA (E : gV) (a : Nat) (x : va_E) (H : Heap) : Prop := va_at E.2.2.1 vwCl (a, x) H
theorem gA.kept {E : gV} {a : Nat} {x : va_E} {H H1 : Heap} (h : gA E a x H) (hq : H1[a]? = H[a]?) : gA E a x H1 := va_at.kept (q := (a, x)) h hq
theorem gA.lt {E : gV} {a : Nat} {x : va_E} {H : Heap} (h : gA E a x H) : a < H.size := va_at.lt (q := (a, x)) h
theorem gA.one {E : gV} {a : Nat} {x : va_E} {H : Heap} (h : gA E a x H) : va_P E.2.2.1 vwCl [(a, x)] H := fun k q hk => by
  cases k with
  | zero => cases hk; exact h
  | succ k => cases hk
/-- rows alike below the length: one cell -/
theorem gA.row {E : gV} {a n : Nat} {cA : ClassId} {f g : Nat → Int32} {H : Heap} (h : gA E a (.inl (cA, n, .inl f)) H) (hfg : ∀ j, j < n → f j = g j) : gA E a (.inl (cA, n, .inl g)) H := by
  have h1 : H[a]? = some (vp_cell cA (n, .inl f)) := h
  show H[a]? = some (vp_cell cA (n, .inl g))
  rw [h1, vp_cell_i, vp_cell_i]
  have : arrV cA n (fun j => Value.int (f j)) = arrV cA n (fun j => Value.int (g j)) := by
    unfold arrV
    congr 1
    apply Array.ext
    · simp
    · intro i h1 h2
      simp at h1 ⊢
      exact hfg i h1
  rw [this]
section HEAPR
variable {p : Program} {l : Launch} {e : Env} {R : Room} {s : State} {m : MethodId} {args : Array Value} {below : List Frame} {meth : Method} {c : Code} {H : Heap} {locs : List Loc} {cells slots : Nat} {Q : State → Prop}
variable {E : gV} {own : String} {cc : ByteArray} {nL : Nat} {rest : List Value} {pc : Nat} {ls : Array Slot} {a : Nat} {A : Nat → Prop} {H0 : Heap}
theorem g_get {ci : Nat} {fs : List Value} {C : String} {T : u_T} {N index : Nat} (hC : gC l E p s m meth c own cc nL) (hE : gA E a (.inr (ci, fs)) H) (hc : vwCl[ci]? = some (C, T, N)) (hu : ∀ w ∈ u_ws C T N, w ∈ lw_tbl) (k : Nat) (hk : k < N)
    (hl : Cond.fieldLink own index (T k).1 (T k).2.1 (T k).2.2.1 ∈ lw_tbl) {v : Value} (hv : fs[k]? = some v) (hdg : decode cc pc = .ok (.getfield index, 3))
    (kk : W p l e R s m args below meth c H locs cells slots Q (F0 m (pc + 3) ls (v :: rest))) : W p l e R s m args below meth c H locs cells slots Q (F0 m pc ls (.ref a :: rest)) :=
  va_get (D := E.2.2.1) (Ts := lw_tbl.filter goodWord) hC.2.2.1 hC.2.2.2.1 (fun w hw => gw hC.1 hC.2.1 (List.mem_filter.mp hw).1 (List.mem_filter.mp hw).2)
    (fun w hw => List.mem_filter.mpr ⟨hu w hw, by obtain ⟨j, -, rfl⟩ := List.mem_map.mp hw; unfold u_lay; split <;> rfl⟩) hC.2.2.2.2.2.1 (gK hC.1 hC.2.1) hE.one 0 rfl hc k hk (gw hC.1 hC.2.1 hl rfl) (fun _ h => h) hv hdg kk
theorem g_gets {ci : Nat} {fs : List Value} {C ref : String} {T : u_T} {N index : Nat} (hC : gC l E p s m meth c own cc nL) (hE : gA E a (.inr (ci, fs)) H) (hc : vwCl[ci]? = some (C, T, N)) (hu : ∀ w ∈ u_ws C T N, w ∈ lw_tbl) (k : Nat) (hk : k < N)
    (hl : Cond.fieldLink own index ref (T k).2.1 (T k).2.2.1 ∈ lw_tbl) (hsm : Cond.sameField ref (T k).1 (T k).2.1 (T k).2.2.1 ∈ lw_tbl) {v : Value} (hv : fs[k]? = some v) (hdg : decode cc pc = .ok (.getfield index, 3))
    (kk : W p l e R s m args below meth c H locs cells slots Q (F0 m (pc + 3) ls (v :: rest))) : W p l e R s m args below meth c H locs cells slots Q (F0 m pc ls (.ref a :: rest)) :=
  va_get (D := E.2.2.1) (Ts := lw_tbl.filter goodWord) hC.2.2.1 hC.2.2.2.1 (fun w hw => gw hC.1 hC.2.1 (List.mem_filter.mp hw).1 (List.mem_filter.mp hw).2)
    (fun w hw => List.mem_filter.mpr ⟨hu w hw, by obtain ⟨j, -, rfl⟩ := List.mem_map.mp hw; unfold u_lay; split <;> rfl⟩) hC.2.2.2.2.2.1 (gK hC.1 hC.2.1) hE.one 0 rfl hc k hk (gw hC.1 hC.2.1 hl rfl) (fun x9 h9 => u_same (args := args) (gw hC.1 hC.2.1 hsm rfl) x9 h9) hv hdg kk
theorem g_iald {n j : Nat} {f : Nat → Int32} (hC : gC l E p s m meth c own cc nL) (hE : gA E a (.inl (E.2.2.2 0, n, .inl f)) H) (hj : j < n) (hn : n < 2 ^ 31) (hdg : decode cc pc = .ok (.iaload, 1))
    (kk : W p l e R s m args below meth c H locs cells slots Q (F0 m (pc + 1) ls (.int (f j) :: rest))) : W p l e R s m args below meth c H locs cells slots Q (F0 m pc ls (.int (nI j) :: .ref a :: rest)) :=
  va_iald hC.2.2.1 hC.2.2.2.1 (gK hC.1 hC.2.1) hE.one 0 0 rfl rfl (vp_in_nI hj hn) hdg (by rw [nI_clamp (by omega)]; exact kk)
theorem g_zald {n j : Nat} {f : Nat → Int32} (hC : gC l E p s m meth c own cc nL) (hE : gA E a (.inl (E.2.2.2 1, n, .inl f)) H) (hj : j < n) (hn : n < 2 ^ 31) (hdg : decode cc pc = .ok (.baload, 1))
    (kk : W p l e R s m args below meth c H locs cells slots Q (F0 m (pc + 1) ls (.int (f j) :: rest))) : W p l e R s m args below meth c H locs cells slots Q (F0 m pc ls (.int (nI j) :: .ref a :: rest)) :=
  va_zald hC.2.2.1 hC.2.2.2.1 (gK hC.1 hC.2.1) hE.one 0 1 rfl rfl (vp_in_nI hj hn) hdg (by rw [nI_clamp (by omega)]; exact kk)
theorem g_cald {n j : Nat} {f : Nat → Int32} (hC : gC l E p s m meth c own cc nL) (hE : gA E a (.inl (E.2.2.2 2, n, .inl f)) H) (hj : j < n) (hn : n < 2 ^ 31) (hdg : decode cc pc = .ok (.caload, 1))
    (kk : W p l e R s m args below meth c H locs cells slots Q (F0 m (pc + 1) ls (.int (f j) :: rest))) : W p l e R s m args below meth c H locs cells slots Q (F0 m pc ls (.int (nI j) :: .ref a :: rest)) :=
  va_cald hC.2.2.1 hC.2.2.2.1 (gK hC.1 hC.2.1) hE.one 0 2 rfl rfl (vp_in_nI hj hn) hdg (by rw [nI_clamp (by omega)]; exact kk)
theorem g_aald {n j : Nat} {f : Nat → Option Nat} (hC : gC l E p s m meth c own cc nL) (hE : gA E a (.inl (E.2.2.2 3, n, .inr (.inr (.inr (.inr f))))) H) (hj : j < n) (hn : n < 2 ^ 31) (hdg : decode cc pc = .ok (.aaload, 1))
    (kk : W p l e R s m args below meth c H locs cells slots Q (F0 m (pc + 1) ls (va_rf (f j) :: rest))) : W p l e R s m args below meth c H locs cells slots Q (F0 m pc ls (.int (nI j) :: .ref a :: rest)) :=
  va_aldq (C := "java/lang/Object") hC.2.2.1 hC.2.2.2.1 (gK hC.1 hC.2.1) hE.one 0 3 rfl rfl (vp_in_nI hj hn) hdg (by rw [nI_clamp (by omega)]; exact kk)
theorem g_alen {n : Nat} {x : (Nat → Int32) ⊕ (Nat → Int64) ⊕ (Nat → UInt32) ⊕ (Nat → UInt64) ⊕ (Nat → Option Nat)} (t : Nat) {ty : FieldType} (hC : gC l E p s m meth c own cc nL) (hE : gA E a (.inl (E.2.2.2 t, n, x)) H) (ht : (gT E.2.2.2)[t]? = some (E.2.2.2 t, ty)) (hdg : decode cc pc = .ok (.arraylength, 1))
    (kk : W p l e R s m args below meth c H locs cells slots Q (F0 m (pc + 1) ls (.int (nI n) :: rest))) : W p l e R s m args below meth c H locs cells slots Q (F0 m pc ls (.ref a :: rest)) :=
  va_alen (v := nI n) hC.2.2.1 hC.2.2.2.1 (gK hC.1 hC.2.1) hE.one 0 t rfl ht rfl hdg kk
theorem g_put {ci : Nat} {fs : List Value} {C : String} {T : u_T} {N index : Nat} (hC : gC l E p s m meth c own cc nL) (hE : gA E a (.inr (ci, fs)) H) (hS : va_S A H0 H locs) (hA : A a) (hc : vwCl[ci]? = some (C, T, N)) (hu : ∀ w ∈ u_ws C T N, w ∈ lw_tbl) (ty0 : Nat → FieldType) (hty : ∀ k, k < N → parseFieldDescriptor (T k).2.2.1 = some (ty0 k)) (hnm : ∀ a, a < N → ∀ b, b < N → a ≠ b → (T a).2.1 ≠ (T b).2.1) (k : Nat) (hk : k < N)
    (hl : Cond.fieldLink own index (T k).1 (T k).2.1 (T k).2.2.1 ∈ lw_tbl) (hfin : (T k).2.2.2 = false ∨ ((T k).2.2.2 = true ∧ meth.name = "<init>" ∧ (T k).1 = own)) {ty : FieldType} {v : Value} (hd : parseFieldDescriptor (T k).2.2.1 = some ty) (hn : narrow ty v = v) (hfit : fits ty v = true) (hlt : k < fs.length) (hdg : decode cc pc = .ok (.putfield index, 3))
    (kk : ∀ (H1 : Heap) (locs1 : List Loc), gA E a (.inr (ci, fs.set k v)) H1 → H1.size = H.size → (∀ q : Nat, q ≠ a → H1[q]? = H[q]?) → va_S A H0 H1 locs1 → W p l e R s m args below meth c H1 locs1 cells slots Q (F0 m (pc + 3) ls rest)) : W p l e R s m args below meth c H locs cells slots Q (F0 m pc ls (v :: .ref a :: rest)) := by
  have hts : ∀ w ∈ lw_tbl.filter goodWord, w.before args s = true := fun w hw => gw hC.1 hC.2.1 (List.mem_filter.mp hw).1 (List.mem_filter.mp hw).2
  have hin : ∀ w ∈ u_ws C T N, w ∈ lw_tbl.filter goodWord := fun w hw => List.mem_filter.mpr ⟨hu w hw, by obtain ⟨j, -, rfl⟩ := List.mem_map.mp hw; unfold u_lay; split <;> rfl⟩
  have hown := hC.2.2.2.2.2.1
  have hK := gK hC.1 hC.2.1
  have hlink : (Cond.fieldLink own index (T k).1 (T k).2.1 (T k).2.2.1).before args s = true := gw hC.1 hC.2.1 hl rfl
  have hap := va_apart (own := own) hts hin ty0 hty hnm hK hc
  obtain ⟨r, h1, cell, q1, q2, q3, q4⟩ := hE
  have hr : r = (C, T, N) := Option.some.inj (h1.symm.trans hc)
  subst hr
  obtain ⟨hSl, hfc, kC, hkC, hkind⟩ := hK.1 ci _ hc
  obtain ⟨cf, kf, fi, f, hi, hsl⟩ := hSl k hk
  have hst := (u_facts hfc hkC (u_lays hts hin hk) hi).1
  rcases hfin with hfin | ⟨hfin, hin2, hdecl⟩
  · have hlay := hts _ (hin _ (u_in_lay hk))
    unfold u_lay at hlay
    rw [if_neg (by rw [hfin]; decide)] at hlay
    have h6 := u_store hfc hkC hkind hlay hi hd hn hfit
    refine W.putK hC.2.2.1 hC.2.2.2.1 (f := f) ⟨hown, hlink, ⟨_, _, _, hi⟩, hst⟩ (by rw [q2]; exact h6) q1 q3 (by rw [hsl]; exact k2_hasslot (q4 k hk)) rfl rfl hdg fun H' e1 e2 e3 => ?_
    rw [hsl] at e1 ⊢
    exact kk H' _ ⟨_, hc, t_OB.to (V := updV (vp_V fs) k v) ⟨_, e1, q2, q3, t_set q4 hap hk v⟩ (fun j _ => vp_updV_set hlt v j)⟩ e2 e3 (hS.put e2 e3 hA)
  · have hlay := hts _ (hin _ (u_in_lay hk))
    unfold u_lay at hlay
    rw [if_pos hfin] at hlay
    have hcf : m.cls = cf := by
      obtain ⟨_, _, c', _, _, _, -, -, hf', -, -, -, hown2, -⟩ := Cond.laysFinal_spec hlay
      have e1 : c' = cf := by have := hi.symm.trans hf'; simp at this; exact this.1.symm
      rw [hdecl] at hown2
      rw [← e1]; exact Option.some.inj (hown.symm.trans hown2)
    have h6 := u_fits hfc hkC hkind (Or.inr hlay) hi hd hn hfit
    refine W.putFinK hC.2.2.1 hC.2.2.2.1 hown hlink hi hst hcf hin2 (by rw [q2]; exact h6) q1 q3 (by rw [hsl]; exact k2_hasslot (q4 k hk)) rfl rfl hdg fun H' e1 e2 e3 => ?_
    rw [hsl] at e1 ⊢
    exact kk H' _ ⟨_, hc, t_OB.to (V := updV (vp_V fs) k v) ⟨_, e1, q2, q3, t_set q4 hap hk v⟩ (fun j _ => vp_updV_set hlt v j)⟩ e2 e3 (hS.put e2 e3 hA)
theorem g_iast {n j : Nat} {x : Int32} {f : Nat → Int32} (hC : gC l E p s m meth c own cc nL) (hE : gA E a (.inl (E.2.2.2 0, n, .inl f)) H) (hS : va_S A H0 H locs) (hA : A a) (hj : j < n) (hn : n < 2 ^ 31) (hdg : decode cc pc = .ok (.iastore, 1))
    (kk : ∀ (H1 : Heap) (locs1 : List Loc), gA E a (.inl (E.2.2.2 0, n, .inl (upd f j x))) H1 → H1.size = H.size → (∀ q : Nat, q ≠ a → H1[q]? = H[q]?) → va_S A H0 H1 locs1 → W p l e R s m args below meth c H1 locs1 cells slots Q (F0 m (pc + 1) ls rest)) : W p l e R s m args below meth c H locs cells slots Q (F0 m pc ls (.int x :: .int (nI j) :: .ref a :: rest)) := by
  have hin : vp_in (nI j) n := vp_in_nI hj hn
  refine W.iast hC.2.2.1 hC.2.2.2.1 hE (((gK hC.1 hC.2.1).2 0 _ rfl).1 n (fun j => .int (f j))) (fun q => by cases q) (by show ¬ (nI j < 0 ∨ (arrV _ _ _).slots.size ≤ _); rw [arrV_size]; exact hin) rfl rfl hdg fun H1 e z oq => ?_
  refine kk H1 _ ?_ z oq (hS.put z oq hA)
  show H1[a]? = some (vp_cell _ _)
  rw [e]
  rw [vp_cell_i, vp_cell_i, arrV_store, nI_clamp (by omega)]
  congr 2
  funext q
  by_cases hq : q = j
  · subst hq
    simp [updV, upd]
  · simp [updV, upd, hq]
theorem g_zast {n j : Nat} {x : Int32} {f : Nat → Int32} (hC : gC l E p s m meth c own cc nL) (hE : gA E a (.inl (E.2.2.2 1, n, .inl f)) H) (hS : va_S A H0 H locs) (hA : A a) (hj : j < n) (hn : n < 2 ^ 31) (hx : narrow .boolean (.int x) = .int x) (hdg : decode cc pc = .ok (.bastore, 1))
    (kk : ∀ (H1 : Heap) (locs1 : List Loc), gA E a (.inl (E.2.2.2 1, n, .inl (upd f j x))) H1 → H1.size = H.size → (∀ q : Nat, q ≠ a → H1[q]? = H[q]?) → va_S A H0 H1 locs1 → W p l e R s m args below meth c H1 locs1 cells slots Q (F0 m (pc + 1) ls rest)) : W p l e R s m args below meth c H locs cells slots Q (F0 m pc ls (.int x :: .int (nI j) :: .ref a :: rest)) := by
  have hin : vp_in (nI j) n := vp_in_nI hj hn
  refine W.zast hC.2.2.1 hC.2.2.2.1 hE (((gK hC.1 hC.2.1).2 1 _ rfl).1 n (fun j => .int (f j))) (fun q => by cases q) (by show ¬ (nI j < 0 ∨ (arrV _ _ _).slots.size ≤ _); rw [arrV_size]; exact hin) rfl rfl hdg fun H1 e z oq => ?_
  refine kk H1 _ ?_ z oq (hS.put z oq hA)
  show H1[a]? = some (vp_cell _ _)
  rw [e]
  rw [hx, vp_cell_i, vp_cell_i, arrV_store, nI_clamp (by omega)]
  congr 2
  funext q
  by_cases hq : q = j
  · subst hq
    simp [updV, upd]
  · simp [updV, upd, hq]
theorem g_cast {n j : Nat} {x : Int32} {f : Nat → Int32} (hC : gC l E p s m meth c own cc nL) (hE : gA E a (.inl (E.2.2.2 2, n, .inl f)) H) (hS : va_S A H0 H locs) (hA : A a) (hj : j < n) (hn : n < 2 ^ 31) (hx : narrow .char (.int x) = .int x) (hdg : decode cc pc = .ok (.castore, 1))
    (kk : ∀ (H1 : Heap) (locs1 : List Loc), gA E a (.inl (E.2.2.2 2, n, .inl (upd f j x))) H1 → H1.size = H.size → (∀ q : Nat, q ≠ a → H1[q]? = H[q]?) → va_S A H0 H1 locs1 → W p l e R s m args below meth c H1 locs1 cells slots Q (F0 m (pc + 1) ls rest)) : W p l e R s m args below meth c H locs cells slots Q (F0 m pc ls (.int x :: .int (nI j) :: .ref a :: rest)) := by
  have hin : vp_in (nI j) n := vp_in_nI hj hn
  refine W.cast hC.2.2.1 hC.2.2.2.1 hE (((gK hC.1 hC.2.1).2 2 _ rfl).1 n (fun j => .int (f j))) (fun q => by cases q) (by show ¬ (nI j < 0 ∨ (arrV _ _ _).slots.size ≤ _); rw [arrV_size]; exact hin) rfl rfl hdg fun H1 e z oq => ?_
  refine kk H1 _ ?_ z oq (hS.put z oq hA)
  show H1[a]? = some (vp_cell _ _)
  rw [e]
  rw [hx, vp_cell_i, vp_cell_i, arrV_store, nI_clamp (by omega)]
  congr 2
  funext q
  by_cases hq : q = j
  · subst hq
    simp [updV, upd]
  · simp [updV, upd, hq]
theorem g_new {C : String} {T : u_T} {N ci index : Nat} (hC : gC l E p s m meth c own cc nL) (hc : vwCl[ci]? = some (C, T, N)) (hu : ∀ w ∈ u_ws C T N, w ∈ lw_tbl) (ty : Nat → FieldType) (hty : ∀ k, k < N → parseFieldDescriptor (T k).2.2.1 = some (ty k)) (hcl : Cond.classLink own index C ∈ lw_tbl) (hinst : Cond.instantiable C N ∈ lw_tbl) (hini : Cond.initialized C ∈ lw_tbl)
    (hS : va_S A H0 H locs) (hA : ∀ q, H0.size ≤ q → A q) {fs : List Value} (hfs : ∀ j, j < N → defaultValue (ty j) = vp_V fs j) (hcells : cells + 1 ≤ R.cells) (hslots : slots + N ≤ R.slots) (hdg : decode cc pc = .ok (.new index, 3))
    (kk : ∀ (H1 : Heap), gA E H.size (.inr (ci, fs)) H1 → H1.size = H.size + 1 → (∀ q : Nat, q < H.size → H1[q]? = H[q]?) → va_S A H0 H1 locs → W p l e R s m args below meth c H1 locs (cells + 1) (slots + N) Q (F0 m (pc + 3) ls (.ref H.size :: rest))) : W p l e R s m args below meth c H locs cells slots Q (F0 m pc ls rest) := by
  have hts : ∀ w ∈ lw_tbl.filter goodWord, w.before args s = true := fun w hw => gw hC.1 hC.2.1 (List.mem_filter.mp hw).1 (List.mem_filter.mp hw).2
  have hin : ∀ w ∈ u_ws C T N, w ∈ lw_tbl.filter goodWord := fun w hw => List.mem_filter.mpr ⟨hu w hw, by obtain ⟨j, -, rfl⟩ := List.mem_map.mp hw; unfold u_lay; split <;> rfl⟩
  have hKn := (gK hC.1 hC.2.1).1 ci _ hc
  refine W.newcK hC.2.2.1 hC.2.2.2.1 hC.2.2.2.2.2.1 (gw hC.1 hC.2.1 hcl rfl) (gw hC.1 hC.2.1 hinst rfl) (gw hC.1 hC.2.1 hini rfl) rfl hdg hcells hslots hKn.2.1 rfl fun H1 kC hkC e1 z1 o1 => ?_
  exact kk H1 ⟨_, hc, (u_born ty hts hin hKn hkC e1 hty).to hfs⟩ z1 o1 ⟨Nat.le_trans hS.1 (by omega), fun x h1 h2 => (o1 x (Nat.lt_of_lt_of_le h1 hS.1)).trans (hS.2.1 x h1 h2), hS.2.2⟩
theorem g_newa (t : Nat) {atype : ArrayType} {n : Nat} {ty : FieldType} {a0 : vp_A} (hC : gC l E p s m meth c own cc nL) (harr : Cond.arrayClass (newarray.typeOf atype) ∈ lw_tbl) (hty : newarray.typeOf atype = ty) (ht : (gT E.2.2.2)[t]? = some (E.2.2.2 t, ty)) (hob : ∀ C, ty ≠ .object C)
    (ha : ∀ cA : ClassId, vp_cell cA a0 = arrV cA n (fun _ => defaultValue ty)) (hn : n < 2 ^ 31) (hbytes : n * componentBytes ty ≤ 536870912)
    (hS : va_S A H0 H locs) (hA : ∀ q, H0.size ≤ q → A q) (hcells : cells + 1 ≤ R.cells) (hslots : slots + n ≤ R.slots) (hdg : decode cc pc = .ok (.newarray atype, 2))
    (kk : ∀ (H1 : Heap), gA E H.size (.inl (E.2.2.2 t, a0)) H1 → H1.size = H.size + 1 → (∀ q : Nat, q < H.size → H1[q]? = H[q]?) → va_S A H0 H1 locs → W p l e R s m args below meth c H1 locs (cells + 1) (slots + n) Q (F0 m (pc + 2) ls (.ref H.size :: rest))) : W p l e R s m args below meth c H locs cells slots Q (F0 m pc ls (.int (nI n) :: rest)) := by
  subst hty
  refine va_newaK hC.2.2.1 hC.2.2.2.1 (gw hC.1 hC.2.1 harr rfl) rfl hdg rfl (nI_pos hn) (nI_clamp hn) hbytes hcells hslots rfl fun H1 cA e1 z1 o1 hAr hNm => ?_
  have hra := ((gK hC.1 hC.2.1).2 t _ ht).2
  have hcA : cA = E.2.2.2 t := by
    have h2 : s.vm.findClass ("[" ++ (newarray.typeOf atype).toString) = some (E.2.2.2 t) := by
      cases atype <;> exact hra
    exact Option.some.inj (hNm.symm.trans h2)
  subst hcA
  exact kk H1 (show H1[H.size]? = some (vp_cell _ _) by rw [ha]; exact e1) z1 o1 ⟨Nat.le_trans hS.1 (by omega), fun x h1 h2 => (o1 x (Nat.lt_of_lt_of_le h1 hS.1)).trans (hS.2.1 x h1 h2), hS.2.2⟩
end HEAPR
theorem u0_in : ∀ w ∈ u_ws RX0 TX0 16, w ∈ lw_tbl := by decide +kernel
theorem u1_in : ∀ w ∈ u_ws RX1 TX1 6, w ∈ lw_tbl := by decide +kernel
theorem u2_in : ∀ w ∈ u_ws RX2 TX2 3, w ∈ lw_tbl := by decide +kernel
theorem u3_in : ∀ w ∈ u_ws RX3 TX3 7, w ∈ lw_tbl := by decide +kernel
theorem u4_in : ∀ w ∈ u_ws RX4 TX4 6, w ∈ lw_tbl := by decide +kernel
theorem u5_in : ∀ w ∈ u_ws RX5 TX5 26, w ∈ lw_tbl := by decide +kernel
theorem uJ_in : ∀ w ∈ u_ws RJx4a65c TJx4a65c 3, w ∈ lw_tbl := by decide +kernel
end
section
/-! THE STATES. Model: the rows μ (0 isAbsent, 1 isRevoked, 2 substitute, 3 holder, 4 kind, 5 limit, 6 first, 7 last, 8 source, 9 hand, 10 deedKind, 11 amount, 12 party, 13 day, 14 sum, 15 lackPower, 16 lackDepth, 17 status, 18 lack; 22 today, 23 window), the counts K (0 persons, 1 powers, 2 deeds), depth, thrown.
Signatory: ξ (1 holder, 2 kind, 3 the hand's char, 4 first, 5 last, 6 source; 11 .. 25 a deed's fields; 30 .. 32 a paper's), the moments M 0 (now), M 1 (past): rows 0 limits, 1 revoked, 2 substitutes, 3 annulled, 4 window, 5 day; the counts N (0 powers, 1 deeds, 2 papers, 3 persons); the addresses α. -/
abbrev F2 : Type := Nat → Nat → Int32
def upA (f : F2) (k : Nat) (g : Nat → Int32) : F2 := fun c => if c = k then g else f c
def up2 (f : F2) (k i : Nat) (v : Int32) : F2 := upA f k (upd (f k) i v)
theorem upA_s (f : F2) (k : Nat) (g : Nat → Int32) : upA f k g k = g := if_pos rfl
theorem upA_n (f : F2) {k c : Nat} (g : Nat → Int32) (h : c ≠ k) : upA f k g c = f c := if_neg h
theorem upd_s (f : Nat → Int32) (k : Nat) (x : Int32) : upd f k x k = x := if_pos rfl
theorem upd_n (f : Nat → Int32) {k j : Nat} (x : Int32) (h : j ≠ k) : upd f k x j = f j := if_neg h
def bz (P : Prop) (r : Int32) : Prop := (r = 1 ∧ P) ∨ (r = 0 ∧ ¬ P)
theorem bz.f {P : Prop} {r : Int32} (h : bz P r) (c : r = 0) : ¬ P := by
  rcases h with ⟨h, -⟩ | ⟨-, h⟩
  · rw [h] at c; exact absurd c (by decide)
  · exact h
theorem bz.t {P : Prop} {r : Int32} (h : bz P r) (c : ¬ r = 0) : P := by
  rcases h with ⟨-, h⟩ | ⟨h, -⟩
  · exact h
  · exact absurd h c
theorem bz.nar {P : Prop} {r : Int32} (h : bz P r) : narrow .boolean (.int r) = .int r := by
  rcases h with ⟨rfl, -⟩ | ⟨rfl, -⟩ <;> rfl
theorem bz_1 {P : Prop} (h : P) : bz P 1 := Or.inl ⟨rfl, h⟩
theorem bz_0 {P : Prop} (h : ¬ P) : bz P 0 := Or.inr ⟨rfl, h⟩
theorem bz.iff {P P' : Prop} {r : Int32} (h : bz P r) (e : P ↔ P') : bz P' r := by
  rcases h with ⟨h1, h2⟩ | ⟨h1, h2⟩
  · exact Or.inl ⟨h1, e.mp h2⟩
  · exact Or.inr ⟨h1, fun q => h2 (e.mpr q)⟩
abbrev isP (n : Nat) (p : Int32) : Prop := 0 ≤ p ∧ p < nI n
theorem isP_of {n : Nat} {p : Int32} (h : isP n p) (hn : n < 2 ^ 31) : ∃ j : Nat, j < n ∧ p = nI j := by
  obtain ⟨j, hj, rfl⟩ := nI_of (x := p) (fun q => absurd h.1 (Int32.not_le.mpr q))
  exact ⟨j, (nI_ltI hj hn).mp h.2, rfl⟩
theorem isP_nI {n j : Nat} (h : j < n) (hn : n < 2 ^ 31) : isP n (nI j) := ⟨nI_pos' (by omega), nI_lt h hn⟩
theorem g_inc (i : Nat) : nI i + Int32.ofInt 1 = nI (i + 1) := nI_1 i
theorem mem_nm {P : Prop} {l : List String} {x : String} (h : l = []) (hx : x ∈ l) : P := by rw [h] at hx; exact nomatch hx
/-- the k-th exception of a method's list -/
def gCode (names : List String) (k : Nat) (X : String) : Prop := ∃ i : Nat, names[i]? = some X ∧ k = i + 1
-- ===== the model
def mT (k : Nat) : Nat := if k = 0 ∨ k = 1 then 1 else if k = 9 ∨ k = 17 ∨ k = 18 then 2 else 0
def mN (k : Nat) : Nat := if k = 0 ∨ k = 2 then 8 else if k < 10 then 20 else 24
def RM (E : gV) (β : Nat → Nat) (μ : F2) (K : Nat → Nat) (dp th : Int32) (H : Heap) : Prop :=
  gA E (β 19) (.inr (6, [.ref (β 0), .ref (β 1), .ref (β 2), .ref (β 3), .ref (β 4), .ref (β 5), .ref (β 6), .ref (β 7), .ref (β 8), .ref (β 9), .ref (β 10), .ref (β 11), .ref (β 12), .ref (β 13), .ref (β 14), .ref (β 15), .ref (β 16), .ref (β 17), .ref (β 18), .int (nI (K 0)), .int (nI (K 1)), .int (nI (K 2)), .int (μ 22 0), .int (μ 23 0), .int dp, .int th])) H ∧
  (∀ k, k < 19 → gA E (β k) (.inl (E.2.2.2 (mT k), mN k, .inl (μ k))) H) ∧ ∀ i j, i < 20 → j < 20 → β i = β j → i = j
/-- the model's cells -/
def mA (β : Nat → Nat) : Nat → Prop := fun q => ∃ k, k < 20 ∧ q = β k
theorem RM.obj {E : gV} {β : Nat → Nat} {μ : F2} {K : Nat → Nat} {dp th : Int32} {H : Heap} (h : RM E β μ K dp th H) : gA E (β 19) (.inr (6, [.ref (β 0), .ref (β 1), .ref (β 2), .ref (β 3), .ref (β 4), .ref (β 5), .ref (β 6), .ref (β 7), .ref (β 8), .ref (β 9), .ref (β 10), .ref (β 11), .ref (β 12), .ref (β 13), .ref (β 14), .ref (β 15), .ref (β 16), .ref (β 17), .ref (β 18), .int (nI (K 0)), .int (nI (K 1)), .int (nI (K 2)), .int (μ 22 0), .int (μ 23 0), .int dp, .int th])) H := h.1
theorem RM.arr {E : gV} {β : Nat → Nat} {μ : F2} {K : Nat → Nat} {dp th : Int32} {H : Heap} (h : RM E β μ K dp th H) (k : Nat) (hk : k < 19) {t n : Nat} (ht : mT k = t) (hn : mN k = n) : gA E (β k) (.inl (E.2.2.2 t, n, .inl (μ k))) H := by
  subst ht hn
  exact h.2.1 k hk
/-- the object's numbers have changed -/
theorem RM.setObj {E : gV} {β : Nat → Nat} {μ μ' : F2} {K K' : Nat → Nat} {dp th dp' th' : Int32} {H H1 : Heap} (h : RM E β μ K dp th H) (hμ : ∀ k, k < 19 → μ' k = μ k) (h1 : gA E (β 19) (.inr (6, [.ref (β 0), .ref (β 1), .ref (β 2), .ref (β 3), .ref (β 4), .ref (β 5), .ref (β 6), .ref (β 7), .ref (β 8), .ref (β 9), .ref (β 10), .ref (β 11), .ref (β 12), .ref (β 13), .ref (β 14), .ref (β 15), .ref (β 16), .ref (β 17), .ref (β 18), .int (nI (K' 0)), .int (nI (K' 1)), .int (nI (K' 2)), .int (μ' 22 0), .int (μ' 23 0), .int dp', .int th'])) H1)
    (h2 : ∀ q : Nat, q ≠ β 19 → H1[q]? = H[q]?) : RM E β μ' K' dp' th' H1 :=
  ⟨h1, fun k hk => by rw [hμ k hk]; exact (h.2.1 k hk).kept (h2 _ (fun q => absurd (h.2.2 k 19 (by omega) (by omega) q) (by omega))), h.2.2⟩
/-- a row has changed -/
theorem RM.setArr {E : gV} {β : Nat → Nat} {μ : F2} {K : Nat → Nat} {dp th : Int32} {H H1 : Heap} (h : RM E β μ K dp th H) (k : Nat) (hk : k < 19) {t n : Nat} (ht : mT k = t) (hn : mN k = n) {g : Nat → Int32} (h1 : gA E (β k) (.inl (E.2.2.2 t, n, .inl g)) H1)
    (h2 : ∀ q : Nat, q ≠ β k → H1[q]? = H[q]?) : RM E β (upA μ k g) K dp th H1 := by
  subst ht hn
  refine ⟨?_, fun j hj => ?_, h.2.2⟩
  · rw [upA_n μ g (by omega), upA_n μ g (by omega)]
    exact h.1.kept (h2 _ (fun q => absurd (h.2.2 19 k (by omega) (by omega) q) (by omega)))
  · by_cases hjk : j = k
    · subst hjk
      rw [upA_s]
      exact h1
    · rw [upA_n μ g hjk]
      exact (h.2.1 j hj).kept (h2 _ (fun q => hjk (h.2.2 j k (by omega) (by omega) q)))
theorem RM.kept {E : gV} {β : Nat → Nat} {μ : F2} {K : Nat → Nat} {dp th : Int32} {H H1 : Heap} (h : RM E β μ K dp th H) (h2 : ∀ k, k < 20 → H1[β k]? = H[β k]?) : RM E β μ K dp th H1 :=
  ⟨h.1.kept (h2 19 (by omega)), fun k hk => (h.2.1 k hk).kept (h2 k (by omega)), h.2.2⟩
-- ===== Signatory
def srcV (α : Nat → Nat → Nat) (x : Int32) : Value := if x < 0 then .null else .ref (α 0 x.toNatClampNeg)
/-- the hand's bit -/
def fBit (h : Int32) : Int32 := if h = 115 then 1 else if h = 97 then 2 else if h = 98 then 4 else 0
def xT (k : Nat) : Nat := if k = 0 ∨ k = 2 then 0 else 1
def xN (k : Nat) : Nat := if k = 2 then 8 else if k = 3 then 24 else 20
/-- the address is in use -/
def xV (N : Nat → Nat) (k i : Nat) : Prop := (k < 3 ∧ i < N k) ∨ (k = 3 ∧ (i < 14 ∨ ∃ j, j < 3 ∧ i = 14 + j ∧ 0 < N j))
/-- the class's own empty array -/
def gEmp (E : gV) (t : Nat) : Prop := va_Z "java/util/ArrayList" "DEFAULTCAPACITY_EMPTY_ELEMENTDATA" "[Ljava/lang/Object;" (.ref t) (fun q => E.2.1.heap.size ≤ q) E.2.1 E.2.1.heap
/-- a list at a, its places at t, with the elements row 0 .. row (n - 1) -/
def gL (E : gV) (a t n : Nat) (row : Nat → Nat) (H : Heap) : Prop :=
  ∃ mc : Int32, gA E a (.inr (0, [.int mc, .ref t, .int (nI n)])) H ∧ (n = 0 → gEmp E t) ∧ (0 < n → ∃ (cap : Nat) (r : Nat → Option Nat), n ≤ cap ∧ cap ≤ 1000 ∧ gA E t (.inl (E.2.2.2 3, cap, .inr (.inr (.inr (.inr r))))) H ∧ ∀ i, i < n → r i = some (row i))
def XI (ξ : F2) (N : Nat → Nat) : Prop := N 0 ≤ 20 ∧ N 1 ≤ 24 ∧ N 2 ≤ 512 ∧ N 3 ≤ 8 ∧ (∀ i, i < N 0 → ξ 6 i < 0 ∨ ∃ j, j < i ∧ ξ 6 i = nI j) ∧ (∀ i, i < N 0 → ∃ j, j < N 3 ∧ ξ 1 i = nI j) ∧ (∀ i, i < N 1 → (∃ j, j < N 3 ∧ ξ 11 i = nI j) ∧ (ξ 12 i = -1 ∨ ∃ j, j < N 3 ∧ ξ 12 i = nI j))
def RX (E : gV) (α : Nat → Nat → Nat) (ξ : F2) (M : Nat → F2) (N : Nat → Nat) (H : Heap) : Prop :=
  gA E (α 3 0) (.inr (5, [.ref (α 3 1), .ref (α 3 2), .ref (α 3 3), .ref (α 3 4), .ref (α 3 5), .int (nI (N 3))])) H ∧
  (∀ w, w < 2 → gA E (α 3 (4 + w)) (.inr (2, [.ref (α 3 (6 + 4 * w)), .ref (α 3 (7 + 4 * w)), .ref (α 3 (8 + 4 * w)), .ref (α 3 (9 + 4 * w)), .int (M w 4 0), .int (M w 5 0)])) H) ∧
  (∀ w, w < 2 → ∀ k, k < 4 → gA E (α 3 (6 + 4 * w + k)) (.inl (E.2.2.2 (xT k), xN k, .inl (M w k))) H) ∧
  (∀ k, k < 3 → gL E (α 3 (1 + k)) (α 3 (14 + k)) (N k) (α k) H) ∧
  (∀ i, i < N 0 → gA E (α 0 i) (.inr (4, [.int (nI i), .int (ξ 1 i), .int (ξ 2 i), .int (fBit (ξ 3 i)), .int (ξ 4 i), .int (ξ 5 i), srcV α (ξ 6 i)])) H) ∧
  (∀ i, i < N 1 → gA E (α 1 i) (.inr (1, [.int (nI i), .int (ξ 11 i), .int (ξ 12 i), .int (ξ 13 i), .int (ξ 14 i), .int (ξ 15 i), .int (ξ 16 i), .int (ξ 17 i), .int (ξ 18 i), .int (ξ 19 i), .int (ξ 20 i), .int (ξ 21 i), .int (ξ 22 i), .int (ξ 23 i), .int (ξ 24 i), .int (ξ 25 i)])) H) ∧
  (∀ i, i < N 2 → gA E (α 2 i) (.inr (3, [.int (ξ 30 i), .int (ξ 31 i), .int (ξ 32 i)])) H) ∧
  (∃ tg : Nat → Nat × Nat, ∀ k i, xV N k i → tg (α k i) = (k, i)) ∧ (∀ k i, xV N k i → E.2.1.heap.size ≤ α k i) ∧
  (∀ q : Nat, q < E.2.1.heap.size → H[q]? = E.2.1.heap[q]?) ∧ XI ξ N
section RXACC
variable {E : gV} {α : Nat → Nat → Nat} {ξ : F2} {M : Nat → F2} {N : Nat → Nat} {H : Heap}
theorem RX.sig (h : RX E α ξ M N H) : gA E (α 3 0) (.inr (5, [.ref (α 3 1), .ref (α 3 2), .ref (α 3 3), .ref (α 3 4), .ref (α 3 5), .int (nI (N 3))])) H := h.1
theorem RX.mom (h : RX E α ξ M N H) (w : Nat) (hw : w < 2) : gA E (α 3 (4 + w)) (.inr (2, [.ref (α 3 (6 + 4 * w)), .ref (α 3 (7 + 4 * w)), .ref (α 3 (8 + 4 * w)), .ref (α 3 (9 + 4 * w)), .int (M w 4 0), .int (M w 5 0)])) H := h.2.1 w hw
theorem RX.row (h : RX E α ξ M N H) (w : Nat) (hw : w < 2) (k : Nat) (hk : k < 4) {t n : Nat} (ht : xT k = t) (hn : xN k = n) : gA E (α 3 (6 + 4 * w + k)) (.inl (E.2.2.2 t, n, .inl (M w k))) H := by
  subst ht hn
  exact h.2.2.1 w hw k hk
theorem RX.lim (h : RX E α ξ M N H) (w : Nat) (hw : w < 2) : gA E (α 3 (6 + 4 * w)) (.inl (E.2.2.2 0, 20, .inl (M w 0))) H := h.row w hw 0 (by omega) rfl rfl
theorem RX.rev (h : RX E α ξ M N H) (w : Nat) (hw : w < 2) : gA E (α 3 (7 + 4 * w)) (.inl (E.2.2.2 1, 20, .inl (M w 1))) H := by
  have := h.row w hw 1 (by omega) rfl rfl
  rwa [show 6 + 4 * w + 1 = 7 + 4 * w by omega] at this
theorem RX.sub (h : RX E α ξ M N H) (w : Nat) (hw : w < 2) : gA E (α 3 (8 + 4 * w)) (.inl (E.2.2.2 0, 8, .inl (M w 2))) H := by
  have := h.row w hw 2 (by omega) rfl rfl
  rwa [show 6 + 4 * w + 2 = 8 + 4 * w by omega] at this
theorem RX.ann (h : RX E α ξ M N H) (w : Nat) (hw : w < 2) : gA E (α 3 (9 + 4 * w)) (.inl (E.2.2.2 1, 24, .inl (M w 3))) H := by
  have := h.row w hw 3 (by omega) rfl rfl
  rwa [show 6 + 4 * w + 3 = 9 + 4 * w by omega] at this
theorem RX.list (h : RX E α ξ M N H) (k : Nat) (hk : k < 3) : gL E (α 3 (1 + k)) (α 3 (14 + k)) (N k) (α k) H := h.2.2.2.1 k hk
theorem RX.pow (h : RX E α ξ M N H) {i : Nat} (hi : i < N 0) : gA E (α 0 i) (.inr (4, [.int (nI i), .int (ξ 1 i), .int (ξ 2 i), .int (fBit (ξ 3 i)), .int (ξ 4 i), .int (ξ 5 i), srcV α (ξ 6 i)])) H := h.2.2.2.2.1 i hi
theorem RX.deed (h : RX E α ξ M N H) {i : Nat} (hi : i < N 1) : gA E (α 1 i) (.inr (1, [.int (nI i), .int (ξ 11 i), .int (ξ 12 i), .int (ξ 13 i), .int (ξ 14 i), .int (ξ 15 i), .int (ξ 16 i), .int (ξ 17 i), .int (ξ 18 i), .int (ξ 19 i), .int (ξ 20 i), .int (ξ 21 i), .int (ξ 22 i), .int (ξ 23 i), .int (ξ 24 i), .int (ξ 25 i)])) H := h.2.2.2.2.2.1 i hi
theorem RX.pap (h : RX E α ξ M N H) {i : Nat} (hi : i < N 2) : gA E (α 2 i) (.inr (3, [.int (ξ 30 i), .int (ξ 31 i), .int (ξ 32 i)])) H := h.2.2.2.2.2.2.1 i hi
theorem RX.tag (h : RX E α ξ M N H) : ∃ tg : Nat → Nat × Nat, ∀ k i, xV N k i → tg (α k i) = (k, i) := h.2.2.2.2.2.2.2.1
theorem RX.ge (h : RX E α ξ M N H) : ∀ k i, xV N k i → E.2.1.heap.size ≤ α k i := h.2.2.2.2.2.2.2.2.1
theorem RX.frz (h : RX E α ξ M N H) : ∀ q : Nat, q < E.2.1.heap.size → H[q]? = E.2.1.heap[q]? := h.2.2.2.2.2.2.2.2.2.1
theorem RX.inv (h : RX E α ξ M N H) : XI ξ N := h.2.2.2.2.2.2.2.2.2.2
theorem RX.apart (h : RX E α ξ M N H) {k i k' i' : Nat} (h1 : xV N k i) (h2 : xV N k' i') (e : α k i = α k' i') : k = k' ∧ i = i' := by
  obtain ⟨tg, ht⟩ := h.tag
  have h3 := ht k i h1
  rw [e, ht k' i' h2] at h3
  exact ⟨(congrArg Prod.fst h3).symm, (congrArg Prod.snd h3).symm⟩
end RXACC
end
section
/-! ENDS, CALLS OF METHODS THAT WRITE, THE MODEL'S WRITES -/
def updN (K : Nat → Nat) (k v : Nat) : Nat → Nat := fun j => if j = k then v else K j
section RETS
variable {p : Program} {l : Launch} {e : Env} {R : Room} {s : State} {m : MethodId} {args : Array Value} {below : List Frame} {meth : Method} {c : Code} {H H0 : Heap} {locs : List Loc} {cells slots : Nat} {Q : State → Prop}
variable {E : gV} {own : String} {cc : ByteArray} {nL mc ms : Nat} {pc : Nat} {ls : Array Slot} {A A' : Nat → Prop} {px : String → Prop} {rest st0 : List Value}
theorem g_iret {P : Int32 → Prop} {v : Int32} (hC : gC l E p s m meth c own cc nL) (hr : meth.sig.returnType = some .int) (hd : decode cc pc = .ok (.ireturn, 1)) (h1 : cells ≤ mc) (h2 : slots ≤ ms) (hp : P v) :
    W p l e R s m args below meth c s.heap [] cells slots (vx_MQ below (gQR (gPi P)) (gX px) args s mc ms A) (F0 m pc ls [.int v]) :=
  W.widen h1 h2 (vx_ret (W.iret hC.2.2.1 hC.2.2.2.1 hr (fun t e1 _ => ⟨_, rfl, ⟨v, rfl, hp⟩, e1⟩) (fun q h => nomatch h) hd hC.2.2.2.2.2.2))
theorem g_zret {P : Int32 → Prop} {v : Int32} {ty : FieldType} (hC : gC l E p s m meth c own cc nL) (hr : meth.sig.returnType = some ty) (hn : narrow ty (.int v) = .int v) (hd : decode cc pc = .ok (.ireturn, 1)) (h1 : cells ≤ mc) (h2 : slots ≤ ms) (hp : P v) :
    W p l e R s m args below meth c s.heap [] cells slots (vx_MQ below (gQR (gPi P)) (gX px) args s mc ms A) (F0 m pc ls [.int v]) :=
  W.widen h1 h2 (vx_ret (W.zret hC.2.2.1 hC.2.2.2.1 hr hn (fun t e1 _ => ⟨_, rfl, ⟨v, rfl, hp⟩, e1⟩) (fun q h => nomatch h) hd hC.2.2.2.2.2.2))
theorem g_vret {P : Prop} (hC : gC l E p s m meth c own cc nL) (hr : meth.sig.returnType = none) (hd : decode cc pc = .ok (.return_, 1)) (h1 : cells ≤ mc) (h2 : slots ≤ ms) (hp : P) :
    W p l e R s m args below meth c s.heap [] cells slots (vx_MQ below (gQR (gPv P)) (gX px) args s mc ms A) (F0 m pc ls []) :=
  W.widen h1 h2 (vx_ret (W.vret hC.2.2.1 hC.2.2.2.1 hr (fun t e1 _ => ⟨_, rfl, ⟨rfl, hp⟩, e1⟩) (fun q h => nomatch h) hd hC.2.2.2.2.2.2))
theorem g_aret {P : Nat → Prop} {v : Nat} {rt : FieldType} (hC : gC l E p s m meth c own cc nL) (hr : meth.sig.returnType = some rt) (hrt : (∃ n, rt = .object n) ∨ ∃ t, rt = .array t) (hd : decode cc pc = .ok (.areturn, 1)) (h1 : cells ≤ mc) (h2 : slots ≤ ms) (hp : P v) :
    W p l e R s m args below meth c s.heap [] cells slots (vx_MQ below (gQR (gPr P)) (gX px) args s mc ms A) (F0 m pc ls [.ref v]) :=
  W.widen h1 h2 (vx_ret (W.aret hC.2.2.1 hC.2.2.2.1 hr hrt (Or.inr ⟨v, rfl⟩) (fun t e1 _ => ⟨_, rfl, ⟨v, rfl, hp⟩, e1⟩) (fun q h => nomatch h) hd hC.2.2.2.2.2.2))
theorem g_lret {P : Int64 → Prop} {v : Int64} (hC : gC l E p s m meth c own cc nL) (hr : meth.sig.returnType = some .long) (hd : decode cc pc = .ok (.lreturn, 1)) (h1 : cells ≤ mc) (h2 : slots ≤ ms) (hp : P v) :
    W p l e R s m args below meth c s.heap [] cells slots (vx_MQ below (gQR (gPl P)) (gX px) args s mc ms A) (F0 m pc ls [.long v]) :=
  W.widen h1 h2 (vx_ret (W.lret hC.2.2.1 hC.2.2.2.1 hr (fun t e1 _ => ⟨_, rfl, ⟨v, rfl, hp⟩, e1⟩) (fun q h => nomatch h) hd hC.2.2.2.2.2.2))
theorem g_iretW {P : Int32 → Heap → Prop} {v : Int32} (hC : gC l E p s m meth c own cc nL) (hr : meth.sig.returnType = some .int) (hd : decode cc pc = .ok (.ireturn, 1)) (hS : va_S A s.heap H locs) (h1 : cells ≤ mc) (h2 : slots ≤ ms) (hp : P v H) :
    W p l e R s m args below meth c H locs cells slots (vx_MQ below (gQW A (gWi P)) (gX px) args s mc ms A) (F0 m pc ls [.int v]) :=
  W.widen h1 h2 (vx_ret (W.iret hC.2.2.1 hC.2.2.2.1 hr (fun t e1 _ => ⟨_, rfl, ⟨v, rfl, by rw [e1]; exact hp⟩, hS.F e1⟩) hS.2.2 hd hC.2.2.2.2.2.2))
theorem g_zretW {P : Int32 → Heap → Prop} {v : Int32} {ty : FieldType} (hC : gC l E p s m meth c own cc nL) (hr : meth.sig.returnType = some ty) (hn : narrow ty (.int v) = .int v) (hd : decode cc pc = .ok (.ireturn, 1)) (hS : va_S A s.heap H locs) (h1 : cells ≤ mc) (h2 : slots ≤ ms) (hp : P v H) :
    W p l e R s m args below meth c H locs cells slots (vx_MQ below (gQW A (gWi P)) (gX px) args s mc ms A) (F0 m pc ls [.int v]) :=
  W.widen h1 h2 (vx_ret (W.zret hC.2.2.1 hC.2.2.2.1 hr hn (fun t e1 _ => ⟨_, rfl, ⟨v, rfl, by rw [e1]; exact hp⟩, hS.F e1⟩) hS.2.2 hd hC.2.2.2.2.2.2))
theorem g_vretW {P : Heap → Prop} (hC : gC l E p s m meth c own cc nL) (hr : meth.sig.returnType = none) (hd : decode cc pc = .ok (.return_, 1)) (hS : va_S A s.heap H locs) (h1 : cells ≤ mc) (h2 : slots ≤ ms) (hp : P H) :
    W p l e R s m args below meth c H locs cells slots (vx_MQ below (gQW A (gWv P)) (gX px) args s mc ms A) (F0 m pc ls []) :=
  W.widen h1 h2 (vx_ret (W.vret hC.2.2.1 hC.2.2.2.1 hr (fun t e1 _ => ⟨_, rfl, ⟨rfl, by rw [e1]; exact hp⟩, hS.F e1⟩) hS.2.2 hd hC.2.2.2.2.2.2))
theorem g_aretW {P : Nat → Heap → Prop} {v : Nat} {rt : FieldType} (hC : gC l E p s m meth c own cc nL) (hr : meth.sig.returnType = some rt) (hrt : (∃ n, rt = .object n) ∨ ∃ t, rt = .array t) (hd : decode cc pc = .ok (.areturn, 1)) (hS : va_S A s.heap H locs) (h1 : cells ≤ mc) (h2 : slots ≤ ms) (hp : P v H) :
    W p l e R s m args below meth c H locs cells slots (vx_MQ below (gQW A (gWr P)) (gX px) args s mc ms A) (F0 m pc ls [.ref v]) :=
  W.widen h1 h2 (vx_ret (W.aret hC.2.2.1 hC.2.2.2.1 hr hrt (Or.inr ⟨v, rfl⟩) (fun t e1 _ => ⟨_, rfl, ⟨v, rfl, by rw [e1]; exact hp⟩, hS.F e1⟩) hS.2.2 hd hC.2.2.2.2.2.2))
theorem g_lretW {P : Int64 → Heap → Prop} {v : Int64} (hC : gC l E p s m meth c own cc nL) (hr : meth.sig.returnType = some .long) (hd : decode cc pc = .ok (.lreturn, 1)) (hS : va_S A s.heap H locs) (h1 : cells ≤ mc) (h2 : slots ≤ ms) (hp : P v H) :
    W p l e R s m args below meth c H locs cells slots (vx_MQ below (gQW A (gWl P)) (gX px) args s mc ms A) (F0 m pc ls [.long v]) :=
  W.widen h1 h2 (vx_ret (W.lret hC.2.2.1 hC.2.2.2.1 hr (fun t e1 _ => ⟨_, rfl, ⟨v, rfl, by rw [e1]; exact hp⟩, hS.F e1⟩) hS.2.2 hd hC.2.2.2.2.2.2))
theorem g_fretW {P : UInt32 → Heap → Prop} {v : UInt32} (hC : gC l E p s m meth c own cc nL) (hr : meth.sig.returnType = some .float) (hd : decode cc pc = .ok (.freturn, 1)) (hS : va_S A s.heap H locs) (h1 : cells ≤ mc) (h2 : slots ≤ ms) (hp : P v H) :
    W p l e R s m args below meth c H locs cells slots (vx_MQ below (gQW A (gWf P)) (gX px) args s mc ms A) (F0 m pc ls [.float v]) :=
  W.widen h1 h2 (vx_ret (W.fret hC.2.2.1 hC.2.2.2.1 hr (fun t e1 _ => ⟨_, rfl, ⟨v, rfl, by rw [e1]; exact hp⟩, hS.F e1⟩) hS.2.2 hd hC.2.2.2.2.2.2))
theorem g_fret {P : UInt32 → Prop} {v : UInt32} (hC : gC l E p s m meth c own cc nL) (hr : meth.sig.returnType = some .float) (hd : decode cc pc = .ok (.freturn, 1)) (h1 : cells ≤ mc) (h2 : slots ≤ ms) (hp : P v) :
    W p l e R s m args below meth c s.heap [] cells slots (vx_MQ below (gQR (gPf P)) (gX px) args s mc ms A) (F0 m pc ls [.float v]) :=
  W.widen h1 h2 (vx_ret (W.fret hC.2.2.1 hC.2.2.2.1 hr (fun t e1 _ => ⟨_, rfl, ⟨v, rfl, hp⟩, e1⟩) (fun q h => nomatch h) hd hC.2.2.2.2.2.2))
/-- a call of a method that writes and throws nothing -/
theorem g_cW {post : Option Value → Heap → Prop} {a : Array Value} {mc ms : Nat} (hr : vx_Run p l e R s m args below meth c H locs cells slots mc ms (F0 m pc ls st0) rest (gQW A' post a) (gX (fun _ => False)) A') (hS : va_S A H0 H locs) (hAA : ∀ q, A' q → A q)
    (kk : ∀ (v : Option Value) (H1 : Heap) (locs1 : List Loc), post v H1 → H.size ≤ H1.size → (∀ q : Nat, q < H.size → ¬ A' q → H1[q]? = H[q]?) → va_S A H0 H1 locs1 → W p l e R s m args below meth c H1 locs1 (cells + mc) (slots + ms) Q (F0 m (pc + 3) ls (v.toList ++ rest))) : W p l e R s m args below meth c H locs cells slots Q (F0 m pc ls st0) := by
  intro T hT X
  rcases hr T hT X with ⟨v, st₀, t, T', L, h0, X', hL, e1, e2, ⟨v', hv, hp, hF⟩, st⟩ | ⟨q, st₀, t, T', L, E', ce, h0, X', hL, e1, e2, ⟨hp, hz, hk⟩, hce, hcv, hcl, st⟩
  · cases hv
    obtain ⟨k1, k2, k3⟩ := vx_keep h0 e1 hS (fun q _ h => hAA q h) hAA hL hF
    obtain ⟨t2, a1, b1⟩ := kk _ T'.heap (locs ++ L) (by rw [e1]; exact hp) k1 k2 k3 T' rfl X'
    exact ⟨t2, st t2 a1, b1⟩
  · exact hp.elim
theorem g_cWi {P : Int32 → Heap → Prop} {a : Array Value} {mc ms k2 n2 : Nat} (hr : vx_Run p l e R s m args below meth c H locs cells slots mc ms (F0 m pc ls st0) rest (gQW A' (gWi P) a) (gX (fun _ => False)) A') (hS : va_S A H0 H locs) (hAA : ∀ q, A' q → A q) (hc : cells + mc = k2) (hs : slots + ms = n2)
    (kk : ∀ (r : Int32) (H1 : Heap) (locs1 : List Loc), P r H1 → H.size ≤ H1.size → (∀ q : Nat, q < H.size → ¬ A' q → H1[q]? = H[q]?) → va_S A H0 H1 locs1 → W p l e R s m args below meth c H1 locs1 k2 n2 Q (F0 m (pc + 3) ls (.int r :: rest))) : W p l e R s m args below meth c H locs cells slots Q (F0 m pc ls st0) := by
  subst hc hs
  exact g_cW hr hS hAA (fun v H1 locs1 h h1 h2 h3 => by obtain ⟨r, rfl, h⟩ := h; exact kk r H1 locs1 h h1 h2 h3)
theorem g_cWr {P : Nat → Heap → Prop} {a : Array Value} {mc ms k2 n2 : Nat} (hr : vx_Run p l e R s m args below meth c H locs cells slots mc ms (F0 m pc ls st0) rest (gQW A' (gWr P) a) (gX (fun _ => False)) A') (hS : va_S A H0 H locs) (hAA : ∀ q, A' q → A q) (hc : cells + mc = k2) (hs : slots + ms = n2)
    (kk : ∀ (r : Nat) (H1 : Heap) (locs1 : List Loc), P r H1 → H.size ≤ H1.size → (∀ q : Nat, q < H.size → ¬ A' q → H1[q]? = H[q]?) → va_S A H0 H1 locs1 → W p l e R s m args below meth c H1 locs1 k2 n2 Q (F0 m (pc + 3) ls (.ref r :: rest))) : W p l e R s m args below meth c H locs cells slots Q (F0 m pc ls st0) := by
  subst hc hs
  exact g_cW hr hS hAA (fun v H1 locs1 h h1 h2 h3 => by obtain ⟨r, rfl, h⟩ := h; exact kk r H1 locs1 h h1 h2 h3)
theorem g_cWv {P : Heap → Prop} {a : Array Value} {mc ms k2 n2 : Nat} (hr : vx_Run p l e R s m args below meth c H locs cells slots mc ms (F0 m pc ls st0) rest (gQW A' (gWv P) a) (gX (fun _ => False)) A') (hS : va_S A H0 H locs) (hAA : ∀ q, A' q → A q) (hc : cells + mc = k2) (hs : slots + ms = n2)
    (kk : ∀ (H1 : Heap) (locs1 : List Loc), P H1 → H.size ≤ H1.size → (∀ q : Nat, q < H.size → ¬ A' q → H1[q]? = H[q]?) → va_S A H0 H1 locs1 → W p l e R s m args below meth c H1 locs1 k2 n2 Q (F0 m (pc + 3) ls rest)) : W p l e R s m args below meth c H locs cells slots Q (F0 m pc ls st0) := by
  subst hc hs
  exact g_cW hr hS hAA (fun v H1 locs1 h h1 h2 h3 => by obtain ⟨rfl, h⟩ := h; exact kk H1 locs1 h h1 h2 h3)
theorem m_putN {β : Nat → Nat} {μ μ' : F2} {K K' : Nat → Nat} {dp th dp' th' x : Int32} {index : Nat} (k : Nat) (hk : k < 26) (hC : gC l E p s m meth c RX5 cc nL) (hR : RM E β μ K dp th H) (hS : va_S (mA β) H0 H locs)
    (hl : Cond.fieldLink RX5 index (TX5 k).1 (TX5 k).2.1 (TX5 k).2.2.1 ∈ lw_tbl) (hfin : (TX5 k).2.2.2 = false) (hd : tyX5 k = .int) (hμ : ∀ j, j < 19 → μ' j = μ j)
    (he : ([.ref (β 0), .ref (β 1), .ref (β 2), .ref (β 3), .ref (β 4), .ref (β 5), .ref (β 6), .ref (β 7), .ref (β 8), .ref (β 9), .ref (β 10), .ref (β 11), .ref (β 12), .ref (β 13), .ref (β 14), .ref (β 15), .ref (β 16), .ref (β 17), .ref (β 18), .int (nI (K 0)), .int (nI (K 1)), .int (nI (K 2)), .int (μ 22 0), .int (μ 23 0), .int dp, .int th] : List Value).set k (.int x) = [.ref (β 0), .ref (β 1), .ref (β 2), .ref (β 3), .ref (β 4), .ref (β 5), .ref (β 6), .ref (β 7), .ref (β 8), .ref (β 9), .ref (β 10), .ref (β 11), .ref (β 12), .ref (β 13), .ref (β 14), .ref (β 15), .ref (β 16), .ref (β 17), .ref (β 18), .int (nI (K' 0)), .int (nI (K' 1)), .int (nI (K' 2)), .int (μ' 22 0), .int (μ' 23 0), .int dp', .int th'])
    (hdg : decode cc pc = .ok (.putfield index, 3)) (kk : ∀ (H1 : Heap) (locs1 : List Loc), RM E β μ' K' dp' th' H1 → va_S (mA β) H0 H1 locs1 → W p l e R s m args below meth c H1 locs1 cells slots Q (F0 m (pc + 3) ls rest)) : W p l e R s m args below meth c H locs cells slots Q (F0 m pc ls (.int x :: .ref (β 19) :: rest)) := by
  refine g_put hC hR.obj hS ⟨19, by omega, rfl⟩ (C := RX5) (T := TX5) (N := 26) rfl u5_in tyX5 tyX5_ok nmX5 k hk hl (Or.inl hfin) (tyX5_ok k hk) (by rw [hd]; rfl) (by rw [hd]; rfl) (by exact hk) hdg (fun H1 locs1 h1 _ h2 h3 => ?_)
  rw [he] at h1
  exact kk H1 locs1 (hR.setObj hμ h1 h2) h3
theorem m_iast {β : Nat → Nat} {μ : F2} {K : Nat → Nat} {dp th x : Int32} {n j : Nat} (k : Nat) (hk : k < 19) (ht : mT k = 0) (hn : mN k = n) (hC : gC l E p s m meth c own cc nL) (hR : RM E β μ K dp th H) (hS : va_S (mA β) H0 H locs) (hj : j < n) (hdg : decode cc pc = .ok (.iastore, 1))
    (kk : ∀ (H1 : Heap) (locs1 : List Loc), RM E β (up2 μ k j x) K dp th H1 → va_S (mA β) H0 H1 locs1 → W p l e R s m args below meth c H1 locs1 cells slots Q (F0 m (pc + 1) ls rest)) : W p l e R s m args below meth c H locs cells slots Q (F0 m pc ls (.int x :: .int (nI j) :: .ref (β k) :: rest)) := by
  have hb : n < 2 ^ 31 := by rw [← hn]; unfold mN; (repeat' split) <;> omega
  exact g_iast hC (hR.arr k hk ht hn) hS ⟨k, by omega, rfl⟩ hj hb hdg (fun H1 locs1 h1 _ h2 h3 => kk H1 locs1 (hR.setArr k hk ht hn h1 h2) h3)
theorem m_zast {β : Nat → Nat} {μ : F2} {K : Nat → Nat} {dp th x : Int32} {n j : Nat} (k : Nat) (hk : k < 19) (ht : mT k = 1) (hn : mN k = n) (hC : gC l E p s m meth c own cc nL) (hR : RM E β μ K dp th H) (hS : va_S (mA β) H0 H locs) (hj : j < n) (hx : narrow .boolean (.int x) = .int x) (hdg : decode cc pc = .ok (.bastore, 1))
    (kk : ∀ (H1 : Heap) (locs1 : List Loc), RM E β (up2 μ k j x) K dp th H1 → va_S (mA β) H0 H1 locs1 → W p l e R s m args below meth c H1 locs1 cells slots Q (F0 m (pc + 1) ls rest)) : W p l e R s m args below meth c H locs cells slots Q (F0 m pc ls (.int x :: .int (nI j) :: .ref (β k) :: rest)) := by
  have hb : n < 2 ^ 31 := by rw [← hn]; unfold mN; (repeat' split) <;> omega
  exact g_zast hC (hR.arr k hk ht hn) hS ⟨k, by omega, rfl⟩ hj hb hx hdg (fun H1 locs1 h1 _ h2 h3 => kk H1 locs1 (hR.setArr k hk ht hn h1 h2) h3)
theorem m_cast {β : Nat → Nat} {μ : F2} {K : Nat → Nat} {dp th x : Int32} {n j : Nat} (k : Nat) (hk : k < 19) (ht : mT k = 2) (hn : mN k = n) (hC : gC l E p s m meth c own cc nL) (hR : RM E β μ K dp th H) (hS : va_S (mA β) H0 H locs) (hj : j < n) (hx : narrow .char (.int x) = .int x) (hdg : decode cc pc = .ok (.castore, 1))
    (kk : ∀ (H1 : Heap) (locs1 : List Loc), RM E β (up2 μ k j x) K dp th H1 → va_S (mA β) H0 H1 locs1 → W p l e R s m args below meth c H1 locs1 cells slots Q (F0 m (pc + 1) ls rest)) : W p l e R s m args below meth c H locs cells slots Q (F0 m pc ls (.int x :: .int (nI j) :: .ref (β k) :: rest)) := by
  have hb : n < 2 ^ 31 := by rw [← hn]; unfold mN; (repeat' split) <;> omega
  exact g_cast hC (hR.arr k hk ht hn) hS ⟨k, by omega, rfl⟩ hj hb hx hdg (fun H1 locs1 h1 _ h2 h3 => kk H1 locs1 (hR.setArr k hk ht hn h1 h2) h3)
end RETS
end
section
/-! WHAT BOTH SIDES SAY, in pure words. A view v: rows 0 limit, 1 revoked, 2 first, 3 last, 4 source, 5 holder, 6 kind, 7 substitute (-2: present), 8 hand -/
def fOwn (v : F2) (td s : Int32) (p : Nat) : Int32 := if v 2 p ≤ td ∧ td ≤ v 3 p then (if v 1 p ≠ 0 then 118 else if v 0 p < s then 108 else 45) else 100
def fFl (v : F2) (td s : Int32) : Nat → Nat → Int32
  | 0, p => fOwn v td s p
  | n + 1, p => if v 4 p < 0 then fOwn v td s p else if fFl v td s n (v 4 p).toNatClampNeg ≠ 45 then fFl v td s n (v 4 p).toNatClampNeg else fOwn v td s p
def fDp (v : F2) (td s : Int32) : Nat → Nat → Nat
  | 0, _ => 0
  | n + 1, p => if v 4 p < 0 then 0 else if fFl v td s n (v 4 p).toNatClampNeg ≠ 45 then fDp v td s n (v 4 p).toNatClampNeg + 1 else 0
/-- sources lie lower -/
def fSrc (v : F2) (np : Nat) : Prop := ∀ i, i < np → v 4 i < 0 ∨ ∃ j, j < i ∧ v 4 i = nI j
theorem fFl_fuel {v : F2} {td s : Int32} {np : Nat} (hs : fSrc v np) (hn : np < 2 ^ 31) : ∀ (q n m : Nat), q < np → q ≤ n → q ≤ m → fFl v td s n q = fFl v td s m q ∧ fDp v td s n q = fDp v td s m q := by
  intro q
  induction q using Nat.strongRecOn with
  | ind q ih =>
    intro n m hq h1 h2
    rcases hs q hq with h | ⟨j, hj, h⟩
    · have e1 : ∀ n, fFl v td s n q = fOwn v td s q := fun n => by cases n with
        | zero => rfl
        | succ n => exact if_pos h
      have e2 : ∀ n, fDp v td s n q = 0 := fun n => by cases n with
        | zero => rfl
        | succ n => exact if_pos h
      rw [e1, e1, e2, e2]; exact ⟨rfl, rfl⟩
    · obtain ⟨n, rfl⟩ : ∃ k, n = k + 1 := ⟨n - 1, by omega⟩
      obtain ⟨m, rfl⟩ : ∃ k, m = k + 1 := ⟨m - 1, by omega⟩
      have hc : (v 4 q).toNatClampNeg = j := by rw [h]; exact nI_clamp (by omega)
      have h3 := ih j hj n m (by omega) (by omega) (by omega)
      simp [fFl, fDp, hc, h3.1, h3.2]
def fl (v : F2) (td s : Int32) (p : Nat) : Int32 := fFl v td s p p
def dpt (v : F2) (td s : Int32) (p : Nat) : Nat := fDp v td s p p
theorem fl_0 {v : F2} {td s : Int32} {p : Nat} (h : v 4 p < 0) : fl v td s p = fOwn v td s p := by
  unfold fl
  cases p with
  | zero => rfl
  | succ n => exact if_pos h
theorem dpt_0 {v : F2} {td s : Int32} {p : Nat} (h : v 4 p < 0) : dpt v td s p = 0 := by
  unfold dpt
  cases p with
  | zero => rfl
  | succ n => exact if_pos h
theorem fl_s {v : F2} {td s : Int32} {np p q : Nat} (hs : fSrc v np) (hn : np < 2 ^ 31) (hp : p < np) (hq : q < p) (h : v 4 p = nI q) : fl v td s p = if fl v td s q ≠ 45 then fl v td s q else fOwn v td s p := by
  unfold fl
  obtain ⟨k, rfl⟩ : ∃ k, p = k + 1 := ⟨p - 1, by omega⟩
  have hc : (v 4 (k + 1)).toNatClampNeg = q := by rw [h]; exact nI_clamp (by omega)
  have h0 : ¬ v 4 (k + 1) < 0 := by rw [h]; exact nI_pos (by omega)
  have e := (fFl_fuel (td := td) (s := s) hs hn q k q (by omega) (by omega) (Nat.le_refl _)).1
  show (if v 4 (k + 1) < 0 then _ else _) = _
  rw [if_neg h0, hc, e]
theorem dpt_s {v : F2} {td s : Int32} {np p q : Nat} (hs : fSrc v np) (hn : np < 2 ^ 31) (hp : p < np) (hq : q < p) (h : v 4 p = nI q) : dpt v td s p = if fl v td s q ≠ 45 then dpt v td s q + 1 else 0 := by
  unfold fl dpt
  obtain ⟨k, rfl⟩ : ∃ k, p = k + 1 := ⟨p - 1, by omega⟩
  have hc : (v 4 (k + 1)).toNatClampNeg = q := by rw [h]; exact nI_clamp (by omega)
  have h0 : ¬ v 4 (k + 1) < 0 := by rw [h]; exact nI_pos (by omega)
  have e := fFl_fuel (td := td) (s := s) hs hn q k q (by omega) (by omega) (Nat.le_refl _)
  show (if v 4 (k + 1) < 0 then _ else _) = _
  rw [if_neg h0, hc, e.1, e.2]
theorem dpt_le {v : F2} {td s : Int32} {np : Nat} (hs : fSrc v np) (hn : np < 2 ^ 31) : ∀ p, p < np → dpt v td s p ≤ p := by
  intro p
  induction p using Nat.strongRecOn with
  | ind p ih =>
    intro hp
    rcases hs p hp with h | ⟨q, hq, h⟩
    · rw [dpt_0 h]; omega
    · rw [dpt_s hs hn hp hq h]
      have := ih q hq (by omega)
      split <;> omega
/-- somebody acts by the powers of the holder -/
def fAct (v : F2) (i h : Int32) : Prop := i = h ∨ v 7 h.toNatClampNeg = i
def fHas (v : F2) (np : Nat) (td i kind hand s : Int32) : Prop := ∃ p, p < np ∧ v 6 p = kind ∧ v 8 p = hand ∧ fAct v i (v 5 p) ∧ fl v td s p = 45
def fTog (v : F2) (np : Nat) (td i j kind s : Int32) : Prop := (fHas v np td i kind 115 s ∨ fHas v np td j kind 115 s) ∨ (fHas v np td i kind 97 s ∧ fHas v np td j kind 98 s) ∨ (fHas v np td i kind 98 s ∧ fHas v np td j kind 97 s)
/-- how many below n -/
noncomputable def fCnt (P : Nat → Prop) : Nat → Nat
  | 0 => 0
  | n + 1 => fCnt P n + @ite Nat (P n) (Classical.propDecidable _) 1 0
theorem fCnt_le (P : Nat → Prop) (n : Nat) : fCnt P n ≤ n := by
  induction n with
  | zero => exact Nat.le_refl _
  | succ n ih =>
    unfold fCnt
    by_cases h : P n
    · rw [if_pos h]; omega
    · rw [if_neg h]; omega
theorem fCnt_t {P : Nat → Prop} {n : Nat} (h : P n) : fCnt P (n + 1) = fCnt P n + 1 := by
  show fCnt P n + @ite Nat (P n) (Classical.propDecidable _) 1 0 = _
  rw [if_pos h]
theorem fCnt_f {P : Nat → Prop} {n : Nat} (h : ¬ P n) : fCnt P (n + 1) = fCnt P n := by
  show fCnt P n + @ite Nat (P n) (Classical.propDecidable _) 1 0 = _
  rw [if_neg h]; rfl
theorem fCnt_congr {P P' : Nat → Prop} : ∀ {n : Nat}, (∀ i, i < n → (P i ↔ P' i)) → fCnt P n = fCnt P' n := by
  intro n
  induction n with
  | zero => intro _; rfl
  | succ n ih =>
    intro h
    have e := ih (fun i hi => h i (by omega))
    by_cases c : P n
    · rw [fCnt_t c, fCnt_t ((h n (by omega)).mp c), e]
    · rw [fCnt_f c, fCnt_f (fun q => c ((h n (by omega)).mpr q)), e]
/-- a power comes from another, by its source or itself -/
def fCm (v : F2) : Nat → Nat → Nat → Prop
  | 0, p, o => p = o
  | n + 1, p, o => p = o ∨ (¬ v 4 p < 0 ∧ fCm v n (v 4 p).toNatClampNeg o)
def fCome (v : F2) (p o : Nat) : Prop := fCm v p p o
theorem fCm_fuel {v : F2} {np : Nat} (hs : fSrc v np) (hn : np < 2 ^ 31) : ∀ (q n m o : Nat), q < np → q ≤ n → q ≤ m → (fCm v n q o ↔ fCm v m q o) := by
  intro q
  induction q using Nat.strongRecOn with
  | ind q ih =>
    intro n m o hq h1 h2
    rcases hs q hq with h | ⟨j, hj, h⟩
    · have e1 : ∀ n, fCm v n q o ↔ q = o := fun n => by cases n with
        | zero => exact Iff.rfl
        | succ n => exact ⟨fun a => a.elim id (fun a => absurd h a.1), Or.inl⟩
      rw [e1, e1]
    · obtain ⟨n, rfl⟩ : ∃ k, n = k + 1 := ⟨n - 1, by omega⟩
      obtain ⟨m, rfl⟩ : ∃ k, m = k + 1 := ⟨m - 1, by omega⟩
      have hc : (v 4 q).toNatClampNeg = j := by rw [h]; exact nI_clamp (by omega)
      have h3 := ih j hj n m o (by omega) (by omega) (by omega)
      simp only [fCm, hc, h3]
theorem fCome_0 {v : F2} {p o : Nat} (h : v 4 p < 0) : fCome v p o ↔ p = o := by
  unfold fCome
  cases p with
  | zero => exact Iff.rfl
  | succ n => exact ⟨fun a => a.elim id (fun a => absurd h a.1), Or.inl⟩
theorem fCome_s {v : F2} {np p q o : Nat} (hs : fSrc v np) (hn : np < 2 ^ 31) (hp : p < np) (hq : q < p) (h : v 4 p = nI q) : fCome v p o ↔ p = o ∨ fCome v q o := by
  unfold fCome
  obtain ⟨k, rfl⟩ : ∃ k, p = k + 1 := ⟨p - 1, by omega⟩
  have hc : (v 4 (k + 1)).toNatClampNeg = q := by rw [h]; exact nI_clamp (by omega)
  have h0 : ¬ v 4 (k + 1) < 0 := by rw [h]; exact nI_pos (by omega)
  have e := fCm_fuel hs hn q k q o (by omega) (by omega) (Nat.le_refl _)
  show _ ∨ _ ↔ _
  rw [hc, e]
  exact ⟨fun a => a.elim Or.inl (fun a => Or.inr a.2), fun a => a.elim Or.inl (fun a => Or.inr ⟨h0, a⟩)⟩
-- the model's view
def mv (μ : F2) : F2 := fun k => match k with
  | 0 => μ 5
  | 1 => μ 1
  | 2 => μ 6
  | 3 => μ 7
  | 4 => μ 8
  | 5 => μ 3
  | 6 => μ 4
  | 7 => fun j => if μ 0 j ≠ 0 then μ 2 j else -2
  | 8 => μ 9
  | _ => fun _ => 0
/-- what the model's rows keep to -/
def MI (μ : F2) (K : Nat → Nat) : Prop := K 0 ≤ 8 ∧ K 1 ≤ 20 ∧ K 2 ≤ 24 ∧ fSrc (mv μ) (K 1) ∧ (∀ i, i < K 1 → ∃ j, j < K 0 ∧ μ 3 i = nI j) ∧ (0 ≤ μ 22 0 ∧ μ 22 0 ≤ 999)
theorem isIn_1 {n : Nat} {p : Int32} (hn : n < 2 ^ 30) : (0 ≤ p ∧ p ≤ nI n - 1) ↔ isP n p := by
  have e : (nI n - 1).toInt = (n : Int) - 1 := by
    have h1 : nI n - 1 = nI n - nI 1 := rfl
    rw [h1]
    exact pk_sub_toInt (by omega) (by omega)
  simp only [isP, Int32.le_iff_toInt_le, Int32.lt_iff_toInt_lt, e, nI_toInt (show n < 2 ^ 31 by omega)]
  omega
def thr (r a : Int32) : Int32 := if r = 0 then 0 else a
theorem thr_0 {r a : Int32} (h : r = 0) : thr r a = 0 := if_pos h
theorem thr_1 {r a : Int32} (h : ¬ r = 0) : thr r a = a := if_neg h
end
section
/-! WHICH EXCEPTION: 0 none, k the k-th of the method's list -/
noncomputable def cif {α : Type} (P : Prop) (a b : α) : α := @ite α P (Classical.propDecidable P) a b
theorem cif_pos {α : Type} {P : Prop} {a b : α} (h : P) : cif P a b = a := by unfold cif; exact if_pos h
theorem cif_neg {α : Type} {P : Prop} {a b : α} (h : ¬ P) : cif P a b = b := by unfold cif; exact if_neg h
abbrev ix (p : Int32) : Nat := p.toNatClampNeg
abbrev isPw (li fi la : Int32) : Prop := (1 ≤ li ∧ li ≤ 99999) ∧ 0 ≤ fi ∧ fi ≤ la ∧ la ≤ 999
abbrev isSm (s : Int32) : Prop := 1 ≤ s ∧ s ≤ 99999
abbrev isKd (k : Int32) : Prop := 0 ≤ k ∧ k ≤ 3
abbrev isHd (h : Int32) : Prop := h = 115 ∨ h = 97 ∨ h = 98
abbrev isDl (k a pa : Int32) : Prop := isKd k ∧ (0 ≤ pa ∧ pa ≤ 9) ∧ (1 ≤ a ∧ a ≤ 9999)
noncomputable def kAdd (n : Nat) : Nat := cif (n = 8) 1 0
noncomputable def kLeave (n : Nat) (p s : Int32) : Nat := cif (¬ isP n p ∨ (s ≠ -1 ∧ ¬ isP n s)) 1 (cif (p = s) 2 0)
noncomputable def kBack (v : F2) (n : Nat) (p : Int32) : Nat := cif (¬ isP n p) 1 (cif (v 7 (ix p) = -2) 2 0)
noncomputable def kActs (n : Nat) (p o : Int32) : Nat := cif (¬ isP n p ∨ ¬ isP n o) 1 0
noncomputable def kGrant (n np : Nat) (h k ha li fi la : Int32) : Nat := cif (¬ isP n h) 1 (cif (¬ isKd k ∨ ¬ isHd ha ∨ ¬ isPw li fi la) 2 (cif (np = 20) 3 0))
noncomputable def kDel (v : F2) (n np : Nat) (p h li fi la : Int32) : Nat := cif (¬ isP np p ∨ ¬ isP n h) 1 (cif (¬ isPw li fi la) 2 (cif (h = v 5 (ix p) ∨ v 0 (ix p) < li ∨ fi < v 2 (ix p) ∨ v 3 (ix p) < la) 3 (cif (v 1 (ix p) ≠ 0 ∨ np = 20) 4 0)))
noncomputable def kLower (v : F2) (np : Nat) (p li : Int32) : Nat := cif (¬ isP np p) 1 (cif (¬ (1 ≤ li ∧ li ≤ v 0 (ix p))) 2 0)
noncomputable def kRevoke (v : F2) (np : Nat) (p : Int32) : Nat := cif (¬ isP np p) 1 (cif (v 1 (ix p) ≠ 0) 2 0)
noncomputable def kPow (np : Nat) (p : Int32) : Nat := cif (¬ isP np p) 1 0
noncomputable def kFault (np : Nat) (p s : Int32) : Nat := cif (¬ isP np p) 1 (cif (¬ isSm s) 2 0)
noncomputable def kDepth (v : F2) (td : Int32) (np : Nat) (p s : Int32) : Nat := cif (¬ isP np p) 1 (cif (¬ isSm s) 2 (cif (fl v td s (ix p) = 45) 3 0))
noncomputable def kCan (n : Nat) (p k s : Int32) : Nat := cif (¬ isP n p) 1 (cif (¬ isKd k ∨ ¬ isSm s) 2 0)
noncomputable def kTog (n : Nat) (p o k s : Int32) : Nat := cif (¬ isP n p ∨ ¬ isP n o) 1 (cif (¬ isKd k ∨ ¬ isSm s) 2 (cif (p = o) 3 0))
noncomputable def kAsk (k s : Int32) : Nat := cif (¬ isKd k ∨ ¬ isSm s) 1 0
noncomputable def kSign (n nd : Nat) (p k a pa : Int32) : Nat := cif (¬ isP n p) 1 (cif (¬ isDl k a pa) 2 (cif (nd = 24) 3 0))
noncomputable def kSignT (n nd : Nat) (p o k a pa : Int32) : Nat := cif (¬ isP n p ∨ ¬ isP n o) 1 (cif (¬ isDl k a pa) 2 (cif (p = o) 3 (cif (nd = 24) 4 0)))
/-- a deeds' view w: rows 0 kind, 1 amount, 2 party, 3 day, 4 sum, 5 status -/
noncomputable def kRat (v w : F2) (td : Int32) (np nd n : Nat) (d p : Int32) : Nat := cif (¬ isP nd d ∨ ¬ isP n p) 1 (cif (w 5 (ix d) ≠ 119) 2 (cif (¬ fHas v np td p (w 0 (ix d)) 115 (w 4 (ix d))) 3 0))
noncomputable def kAnnul (w : F2) (nd : Nat) (d : Int32) : Nat := cif (¬ isP nd d) 1 (cif (w 5 (ix d) ≠ 119) 2 0)
noncomputable def kLack (w : F2) (nd : Nat) (d : Int32) : Nat := cif (¬ isP nd d) 1 (cif (w 5 (ix d) = 115) 2 0)
noncomputable def kLackP (w : F2) (lp : Nat → Int32) (nd : Nat) (d : Int32) : Nat := cif (¬ isP nd d) 1 (cif (w 5 (ix d) = 115 ∨ lp (ix d) < 0) 2 0)
noncomputable def kWin (d : Int32) : Nat := cif (¬ (1 ≤ d ∧ d ≤ 99)) 1 0
noncomputable def kPass (td d : Int32) : Nat := cif (¬ (1 ≤ d ∧ d ≤ 99) ∨ 999 < td + d) 1 0
noncomputable def kShare (nd : Nat) : Nat := cif (nd = 0) 1 0
-- the model's ends
def mPost (E : gV) (β : Nat → Nat) (μ : F2) (K : Nat → Nat) (code : Nat) (μ' : F2) (K' : Nat → Nat) (Pv : Prop) (H : Heap) : Prop := ∃ dp' : Int32, RM E β (if code = 0 then μ' else μ) (if code = 0 then K' else K) dp' (nI code) H ∧ (code = 0 → Pv)
theorem mPost_0 {E : gV} {β : Nat → Nat} {μ μ' μ2 : F2} {K K' K2 : Nat → Nat} {code : Nat} {Pv : Prop} {H : Heap} {dp : Int32} (hk : code = 0) (hR : RM E β μ2 K2 dp 0 H) (hμ : μ2 = μ') (hK : K2 = K') (hv : Pv) : mPost E β μ K code μ' K' Pv H := by
  subst hk hμ hK
  exact ⟨dp, by rw [if_pos rfl, if_pos rfl]; exact hR, fun _ => hv⟩
theorem mPost_k {E : gV} {β : Nat → Nat} {μ μ' : F2} {K K' : Nat → Nat} {code : Nat} {Pv : Prop} {H : Heap} {dp th : Int32} (k : Nat) (hk : code = k) (h0 : k ≠ 0) (ht : th = nI k) (hR : RM E β μ K dp th H) : mPost E β μ K code μ' K' Pv H := by
  subst hk ht
  exact ⟨dp, by rw [if_neg h0, if_neg h0]; exact hR, fun q => absurd q h0⟩
theorem bzE_1 {C : Nat → Prop} {q : Nat} {r : Int32} (h : bz (∃ t, t < q ∧ C t) r) (hc : C q) : bz (∃ t, t < q + 1 ∧ C t) (r ||| 1) := by
  refine Or.inl ⟨?_, q, by omega, hc⟩
  rcases h with ⟨rfl, -⟩ | ⟨rfl, -⟩ <;> decide
theorem bzE_0 {C : Nat → Prop} {q : Nat} {r : Int32} (h : bz (∃ t, t < q ∧ C t) r) (hc : ¬ C q) : bz (∃ t, t < q + 1 ∧ C t) (r ||| 0) := by
  rcases h with ⟨rfl, t, h1, h2⟩ | ⟨rfl, h1⟩
  · exact Or.inl ⟨by decide, t, by omega, h2⟩
  · refine Or.inr ⟨by decide, fun ⟨t, h2, h3⟩ => ?_⟩
    by_cases e : t = q
    · subst e; exact hc h3
    · exact h1 ⟨t, by omega, h3⟩
theorem bzE_z {C : Nat → Prop} : bz (∃ t, t < 0 ∧ C t) 0 := Or.inr ⟨rfl, fun ⟨t, h, _⟩ => by omega⟩
theorem nI_cnt_t {P : Nat → Prop} {n : Nat} (h : P n) : nI (fCnt P n) + 1 = nI (fCnt P (n + 1)) := by rw [nI_1, fCnt_t h]
theorem nI_cnt_f {P : Nat → Prop} {n : Nat} (h : ¬ P n) : nI (fCnt P n) + 0 = nI (fCnt P (n + 1)) := by rw [fCnt_f h]; exact Int32.add_zero _
theorem not_le_nI {i n : Nat} (hn : n < 2 ^ 31) (hi : i < 2 ^ 31) (h : ¬ nI n ≤ nI i) : i < n := by
  rcases Nat.lt_or_ge i n with q | q
  · exact q
  · exact absurd (nI_le q hi) h
theorem le_nI {i n : Nat} (hn : n < 2 ^ 31) (hi : i < 2 ^ 31) (h : nI n ≤ nI i) : n ≤ i := (nI_leI hn hi).mp h
-- the model's deeds' view
def mw (μ : F2) : F2 := fun k => match k with
  | 0 => μ 10
  | 1 => μ 11
  | 2 => μ 12
  | 3 => μ 13
  | 4 => μ 14
  | 5 => μ 17
  | _ => fun _ => 0
/-- the sum of the earlier deeds' amounts -/
noncomputable def fAdd (w : F2) (an : Nat → Prop) (td wd k pa : Int32) : Nat → Int32 → Int32
  | 0, a => a
  | n + 1, a => cif (w 0 n = k ∧ w 2 n = pa ∧ ¬ an n ∧ td - w 3 n < wd) (fAdd w an td wd k pa n a + w 1 n) (fAdd w an td wd k pa n a)
/-- the greatest sum without a fault: the least of the chain -/
def mR1 (v : F2) (td : Int32) (p : Nat) : Int32 := if v 2 p ≤ td ∧ td ≤ v 3 p ∧ v 1 p = 0 then v 0 p else 0
def mRe (v : F2) (td : Int32) : Nat → Nat → Int32 → Int32
  | 0, p, a => if mR1 v td p < a then mR1 v td p else a
  | n + 1, p, a => if v 4 p < 0 then (if mR1 v td p < a then mR1 v td p else a) else mRe v td n (v 4 p).toNatClampNeg (if mR1 v td p < a then mR1 v td p else a)
/-- rank of a lack's letter -/
def fOrd (x : Int32) : Int32 := if x = 107 then 0 else if x = 100 then 1 else if x = 118 then 2 else if x = 108 then 3 else 4
/-- the lack, its power, its depth: found from the powers below n -/
noncomputable def fLk (v : F2) (td i j k s : Int32) : Nat → Int32 × Int32 × Int32
  | 0 => (107, -1, 0)
  | n + 1 => cif (v 6 n = k ∧ (fAct v i (v 5 n) ∨ (0 ≤ j ∧ fAct v j (v 5 n))) ∧ fOrd (fLk v td i j k s n).1 < fOrd (if fl v td s n = 45 then 104 else fl v td s n))
      ((if fl v td s n = 45 then 104 else fl v td s n), nI n, if fl v td s n = 45 then 0 else nI (dpt v td s n)) (fLk v td i j k s n)
def isGd (x : Int32) : Prop := x = 115 ∨ x = 114
end
section
/-! SMALL RULES, FACTS OF LETTERS -/
section SMALL
variable {p : Program} {l : Launch} {e : Env} {R : Room} {s : State} {m : MethodId} {args : Array Value} {below : List Frame} {meth : Method} {c : Code} {H : Heap} {locs : List Loc} {cells slots : Nat} {Q : State → Prop} {cc : ByteArray} {pc : Nat} {ls : Array Slot} {rest : List Value}
theorem g_iadd1 {x : Nat} (hexec : p.tables.exec = Jvm.exec) (hb : c.code = cc) (hdg : decode cc pc = .ok (.iadd, 1)) (kk : W p l e R s m args below meth c H locs cells slots Q (F0 m (pc + 1) ls (.int (nI (x + 1)) :: rest))) : W p l e R s m args below meth c H locs cells slots Q (F0 m pc ls (.int 1 :: .int (nI x) :: rest)) :=
  lv_iadd hexec hb hdg (by rw [nI_1]; exact kk)
theorem g_isub1 {x : Nat} (hexec : p.tables.exec = Jvm.exec) (hb : c.code = cc) (hdg : decode cc pc = .ok (.isub, 1)) (kk : W p l e R s m args below meth c H locs cells slots Q (F0 m (pc + 1) ls (.int (nI x) :: rest))) : W p l e R s m args below meth c H locs cells slots Q (F0 m pc ls (.int 1 :: .int (nI (x + 1)) :: rest)) :=
  lv_isub hexec hb hdg (by rw [nI_pred]; exact kk)
end SMALL
theorem nI_m2 (j : Nat) (h : j < 8) : nI j ≠ -2 := by
  intro q
  have := congrArg Int32.toInt q
  rw [nI_toInt (by omega)] at this
  have h2 : (-2 : Int32).toInt = -2 := by decide
  omega
theorem fOwn_is (v : F2) (td s : Int32) (p : Nat) : fOwn v td s p = 100 ∨ fOwn v td s p = 118 ∨ fOwn v td s p = 108 ∨ fOwn v td s p = 45 := by
  unfold fOwn
  split
  · split
    · exact Or.inr (Or.inl rfl)
    · split
      · exact Or.inr (Or.inr (Or.inl rfl))
      · exact Or.inr (Or.inr (Or.inr rfl))
  · exact Or.inl rfl
theorem fFl_is (v : F2) (td s : Int32) : ∀ n p, fFl v td s n p = 100 ∨ fFl v td s n p = 118 ∨ fFl v td s n p = 108 ∨ fFl v td s n p = 45 := by
  intro n
  induction n with
  | zero => intro p; exact fOwn_is v td s p
  | succ n ih =>
    intro p
    show (if _ then _ else _) = _ ∨ (if _ then _ else _) = _ ∨ (if _ then _ else _) = _ ∨ (if _ then _ else _) = _
    by_cases h : v 4 p < 0
    · rw [if_pos h]; exact fOwn_is v td s p
    · rw [if_neg h]
      by_cases h2 : fFl v td s n (v 4 p).toNatClampNeg ≠ 45
      · rw [if_pos h2]; exact ih _
      · rw [if_neg h2]; exact fOwn_is v td s p
theorem fl_is (v : F2) (td s : Int32) (p : Nat) : fl v td s p = 100 ∨ fl v td s p = 118 ∨ fl v td s p = 108 ∨ fl v td s p = 45 := fFl_is v td s p p
theorem fl_nar (v : F2) (td s : Int32) (p : Nat) : narrow .char (.int (fl v td s p)) = .int (fl v td s p) := by
  rcases fl_is v td s p with h | h | h | h <;> rw [h] <;> rfl
theorem Y_X5_faulty : gY yX5_faulty cX5_faulty 4 (some .char) 2 := ⟨k_6, k_1162, by decide +kernel⟩
theorem I_X5_faulty : Cond.instanceMethod yX5_faulty ∈ lw_tbl := k_1161
theorem V_X5_faulty : Cond.selects yX5_faulty.cls yX5_faulty yX5_faulty ∈ lw_tbl := ks_32
theorem Y_X5_isIn : gY yX5_isIn cX5_isIn 3 (some .boolean) 3 := ⟨k_6, k_1098, by decide +kernel⟩
theorem S_X5_isIn : Cond.static yX5_isIn ∈ lw_tbl := k_1097
set_option maxHeartbeats 4000000 in
set_option maxRecDepth 100000 in
theorem c_X5_isIn {l : Launch} {E : gV} (hE : gOK l E) (v lo hi : Int32) : gM l E yX5_isIn cX5_isIn 3 (some .boolean) ({ frames := 0, cells := 0, slots := 0, locals := 0 } : Room) [.int v, .int lo, .int hi] (fun H => True) (gQR (gPi (bz (lo ≤ v ∧ v ≤ hi)))) (fun _ => False) gN := by
  refine gM_body hE (by decide +kernel) (Nat.le_of_ble_eq_true rfl) ?_
  intro p_ e_ s m args below meth c hC ht hr hname hP ls hl
  have hx := hC.2.2.1
  have hb := hC.2.2.2.1
  have hl : lv_has ls 3 [(0, .int v), (1, .int lo), (2, .int hi)] := hl
  refine lv_iload_n hx hb dX5_isIn_0 rfl (lv_at hl 0 rfl) ?_
  refine lv_iload_n hx hb dX5_isIn_1 rfl (lv_at hl 1 rfl) ?_
  refine lv_icmp_lt (tgt := 14) hx hb dX5_isIn_2 (by decide) (fun c1 => ?_) (fun c1 => ?_)
  · refine lv_iconst (v := 0) hx hb dX5_isIn_14 (by decide) ?_
    exact g_zret hC hr rfl dX5_isIn_15 (Nat.le_of_ble_eq_true rfl) (Nat.le_of_ble_eq_true rfl) (bz_0 (by grind))
  · refine lv_iload_n hx hb dX5_isIn_5 rfl (lv_at hl 0 rfl) ?_
    refine lv_iload_n hx hb dX5_isIn_6 rfl (lv_at hl 2 rfl) ?_
    refine lv_icmp_gt (tgt := 14) hx hb dX5_isIn_7 (by decide) (fun c2 => ?_) (fun c2 => ?_)
    · refine lv_iconst (v := 0) hx hb dX5_isIn_14 (by decide) ?_
      exact g_zret hC hr rfl dX5_isIn_15 (Nat.le_of_ble_eq_true rfl) (Nat.le_of_ble_eq_true rfl) (bz_0 (by grind))
    · refine lv_iconst (v := 1) hx hb dX5_isIn_10 (by decide) ?_
      refine lv_goto (tgt := 15) hx hb dX5_isIn_11 (by decide) ?_
      exact g_zret hC hr rfl dX5_isIn_15 (Nat.le_of_ble_eq_true rfl) (Nat.le_of_ble_eq_true rfl) (bz_1 (⟨Int32.not_lt.mp c1, Int32.not_lt.mp c2⟩))
set_option maxHeartbeats 4000000 in
set_option maxRecDepth 100000 in
theorem c_X5_isThrown {l : Launch} {E : gV} (hE : gOK l E) {β : Nat → Nat} {μ : F2} {K : Nat → Nat} {dp th : Int32} (is as : Int32) (hz : narrow .boolean (.int is) = .int is) : gM l E yX5_isThrown cX5_isThrown 3 (some .boolean) ({ frames := 0, cells := 0, slots := 0, locals := 0 } : Room) [.ref (β 19), .int is, .int as] (fun H => RM E β μ K dp th H) (gQW (mA β) (gWi (fun r H => r = is ∧ RM E β μ K dp (thr is as) H))) (fun _ => False) (mA β) := by
  refine gM_body hE (by decide +kernel) (Nat.le_of_ble_eq_true rfl) ?_
  intro p_ e_ s m args below meth c hC ht hr hname hP ls hl
  have hx := hC.2.2.1
  have hb := hC.2.2.2.1
  have hl : lv_has ls 3 [(0, .ref (β 19)), (1, .int is), (2, .int as)] := hl
  have hS : va_S ((mA β)) s.heap s.heap [] := va_S.rf
  have hR : RM E β μ K dp th s.heap := hP
  refine lv_aload_n hx hb dX5_isThrown_0 rfl (lv_at hl 0 rfl) ?_
  refine lv_iload_n hx hb dX5_isThrown_1 rfl (lv_at hl 1 rfl) ?_
  refine lv_if_eq (tgt := 9) hx hb dX5_isThrown_2 (by decide) (fun c1 => ?_) (fun c1 => ?_)
  · refine lv_iconst (v := 0) hx hb dX5_isThrown_9 (by decide) ?_
    refine m_putN (μ' := μ) (K' := K) (dp' := dp) (th' := 0) 25 (by decide) hC hR hS k_1021 rfl rfl (fun _ _ => rfl) rfl dX5_isThrown_10 (fun H lo hR hS => ?_)
    refine lv_iload_n hx hb dX5_isThrown_13 rfl (lv_at hl 1 rfl) ?_
    exact g_zretW hC hr hz dX5_isThrown_14 hS (Nat.le_of_ble_eq_true rfl) (Nat.le_of_ble_eq_true rfl) ⟨rfl, by rw [thr_0 c1]; exact hR⟩
  · refine lv_iload_n hx hb dX5_isThrown_5 rfl (lv_at hl 2 rfl) ?_
    refine lv_goto (tgt := 10) hx hb dX5_isThrown_6 (by decide) ?_
    refine m_putN (μ' := μ) (K' := K) (dp' := dp) (th' := as) 25 (by decide) hC hR hS k_1021 rfl rfl (fun _ _ => rfl) rfl dX5_isThrown_10 (fun H lo hR hS => ?_)
    refine lv_iload_n hx hb dX5_isThrown_13 rfl (lv_at hl 1 rfl) ?_
    exact g_zretW hC hr hz dX5_isThrown_14 hS (Nat.le_of_ble_eq_true rfl) (Nat.le_of_ble_eq_true rfl) ⟨rfl, by rw [thr_1 c1]; exact hR⟩
set_option maxHeartbeats 4000000 in
set_option maxRecDepth 100000 in
theorem c_X5_isNobody {l : Launch} {E : gV} (hE : gOK l E) {β : Nat → Nat} {μ : F2} {K : Nat → Nat} {dp th : Int32} (hK : K 0 ≤ 8) (p0 : Int32) : gM l E yX5_isNobody cX5_isNobody 2 (some .boolean) ({ frames := 1, cells := 0, slots := 0, locals := 22 } : Room) [.ref (β 19), .int p0] (fun H => RM E β μ K dp th H) (gQR (gPi (bz (¬ isP (K 0) p0)))) (fun _ => False) gN := by
  refine gM_body hE (by decide +kernel) (Nat.le_of_ble_eq_true rfl) ?_
  intro p_ e_ s m args below meth c hC ht hr hname hP ls hl
  have hx := hC.2.2.1
  have hb := hC.2.2.2.1
  have hl : lv_has ls 2 [(0, .ref (β 19)), (1, .int p0)] := hl
  have hR : RM E β μ K dp th s.heap := hP
  refine lv_iload_n hx hb dX5_isNobody_0 rfl (lv_at hl 1 rfl) ?_
  refine lv_iconst (v := 0) hx hb dX5_isNobody_1 (by decide) ?_
  refine lv_aload_n hx hb dX5_isNobody_2 rfl (lv_at hl 0 rfl) ?_
  refine g_get (v := .int (nI (K 0))) hC hR.obj (C := RX5) (T := TX5) (N := 26) rfl u5_in 19 (by decide) k_1015 rfl dX5_isNobody_3 ?_
  refine lv_iconst (v := 1) hx hb dX5_isNobody_6 (by decide) ?_
  refine lv_isub hx hb dX5_isNobody_7 ?_
  refine g_cRi (k2 := 0) (n2 := 0) (g_runS (rest := []) hC (c_X5_isIn hE p0 0 ((nI (K 0)) - 1)) Y_X5_isIn k_1096 S_X5_isIn trivial rfl hl.1 dX5_isNobody_8 ⟨Nat.le_of_ble_eq_true rfl, Nat.le_of_ble_eq_true rfl⟩ ⟨Nat.le_of_ble_eq_true rfl, Nat.le_of_ble_eq_true rfl⟩ rfl (Nat.le_of_ble_eq_true rfl)) rfl rfl g_no (fun r1 h2 => ?_)
  refine lv_if_ne (tgt := 18) hx hb dX5_isNobody_11 (by decide) (fun c3 => ?_) (fun c3 => ?_)
  · have q4 := bz.t h2 c3
    refine lv_iconst (v := 0) hx hb dX5_isNobody_18 (by decide) ?_
    exact g_zret hC hr rfl dX5_isNobody_19 (Nat.le_of_ble_eq_true rfl) (Nat.le_of_ble_eq_true rfl) (bz_0 (fun q => q ((isIn_1 (by omega)).mp (by assumption))))
  · have q4 := bz.f h2 c3
    refine lv_iconst (v := 1) hx hb dX5_isNobody_14 (by decide) ?_
    refine lv_goto (tgt := 19) hx hb dX5_isNobody_15 (by decide) ?_
    exact g_zret hC hr rfl dX5_isNobody_19 (Nat.le_of_ble_eq_true rfl) (Nat.le_of_ble_eq_true rfl) (bz_1 (fun q => absurd ((isIn_1 (by omega)).mpr q) (by assumption)))
set_option maxHeartbeats 4000000 in
set_option maxRecDepth 100000 in
theorem c_X5_acts {l : Launch} {E : gV} (hE : gOK l E) {β : Nat → Nat} {μ : F2} {K : Nat → Nat} {dp th : Int32} (i : Int32) (j : Nat) (hj : j < 8) (hi : i ≠ -2) : gM l E yX5_acts cX5_acts 3 (some .boolean) ({ frames := 0, cells := 0, slots := 0, locals := 0 } : Room) [.ref (β 19), .int i, .int (nI j)] (fun H => RM E β μ K dp th H) (gQR (gPi (bz (fAct (mv μ) i (nI j))))) (fun _ => False) gN := by
  refine gM_body hE (by decide +kernel) (Nat.le_of_ble_eq_true rfl) ?_
  intro p_ e_ s m args below meth c hC ht hr hname hP ls hl
  have hx := hC.2.2.1
  have hb := hC.2.2.2.1
  have hl : lv_has ls 3 [(0, .ref (β 19)), (1, .int i), (2, .int (nI j))] := hl
  have hR : RM E β μ K dp th s.heap := hP
  have ej : (nI j).toNatClampNeg = j := nI_clamp (by omega)
  refine lv_iload_n hx hb dX5_acts_0 rfl (lv_at hl 1 rfl) ?_
  refine lv_iload_n hx hb dX5_acts_1 rfl (lv_at hl 2 rfl) ?_
  refine lv_icmp_eq (tgt := 24) hx hb dX5_acts_2 (by decide) (fun c1 => ?_) (fun c1 => ?_)
  · refine lv_iconst (v := 1) hx hb dX5_acts_24 (by decide) ?_
    refine lv_goto (tgt := 29) hx hb dX5_acts_25 (by decide) ?_
    exact g_zret hC hr rfl dX5_acts_29 (Nat.le_of_ble_eq_true rfl) (Nat.le_of_ble_eq_true rfl) (by
      first
      | (refine bz_1 ?_; unfold fAct; first | exact Or.inl (by assumption) | (refine Or.inr ?_; rw [ej]; show (if μ 0 j ≠ 0 then μ 2 j else -2) = i; rw [if_pos (by assumption)]; first | assumption | exact Classical.not_not.mp (by assumption)))
      | (refine bz_0 ?_; unfold fAct; rw [ej]; show ¬ (i = nI j ∨ (if μ 0 j ≠ 0 then μ 2 j else -2) = i); intro q; grind))
  · refine lv_aload_n hx hb dX5_acts_5 rfl (lv_at hl 0 rfl) ?_
    refine g_get (v := .ref (β 0)) hC hR.obj (C := RX5) (T := TX5) (N := 26) rfl u5_in 0 (by decide) k_996 rfl dX5_acts_6 ?_
    refine lv_iload_n hx hb dX5_acts_9 rfl (lv_at hl 2 rfl) ?_
    refine g_zald (n := 8) (f := μ 0) (j := j) hC (hR.arr 0 (by decide) rfl rfl) (by omega) (by decide) dX5_acts_10 ?_
    refine lv_if_eq (tgt := 28) hx hb dX5_acts_11 (by decide) (fun c2 => ?_) (fun c2 => ?_)
    · refine lv_iconst (v := 0) hx hb dX5_acts_28 (by decide) ?_
      exact g_zret hC hr rfl dX5_acts_29 (Nat.le_of_ble_eq_true rfl) (Nat.le_of_ble_eq_true rfl) (by
      first
      | (refine bz_1 ?_; unfold fAct; first | exact Or.inl (by assumption) | (refine Or.inr ?_; rw [ej]; show (if μ 0 j ≠ 0 then μ 2 j else -2) = i; rw [if_pos (by assumption)]; first | assumption | exact Classical.not_not.mp (by assumption)))
      | (refine bz_0 ?_; unfold fAct; rw [ej]; show ¬ (i = nI j ∨ (if μ 0 j ≠ 0 then μ 2 j else -2) = i); intro q; grind))
    · refine lv_aload_n hx hb dX5_acts_14 rfl (lv_at hl 0 rfl) ?_
      refine g_get (v := .ref (β 2)) hC hR.obj (C := RX5) (T := TX5) (N := 26) rfl u5_in 2 (by decide) k_998 rfl dX5_acts_15 ?_
      refine lv_iload_n hx hb dX5_acts_18 rfl (lv_at hl 2 rfl) ?_
      refine g_iald (n := 8) (f := μ 2) (j := j) hC (hR.arr 2 (by decide) rfl rfl) (by omega) (by decide) dX5_acts_19 ?_
      refine lv_iload_n hx hb dX5_acts_20 rfl (lv_at hl 1 rfl) ?_
      refine lv_icmp_ne (tgt := 28) hx hb dX5_acts_21 (by decide) (fun c3 => ?_) (fun c3 => ?_)
      · refine lv_iconst (v := 0) hx hb dX5_acts_28 (by decide) ?_
        exact g_zret hC hr rfl dX5_acts_29 (Nat.le_of_ble_eq_true rfl) (Nat.le_of_ble_eq_true rfl) (by
      first
      | (refine bz_1 ?_; unfold fAct; first | exact Or.inl (by assumption) | (refine Or.inr ?_; rw [ej]; show (if μ 0 j ≠ 0 then μ 2 j else -2) = i; rw [if_pos (by assumption)]; first | assumption | exact Classical.not_not.mp (by assumption)))
      | (refine bz_0 ?_; unfold fAct; rw [ej]; show ¬ (i = nI j ∨ (if μ 0 j ≠ 0 then μ 2 j else -2) = i); intro q; grind))
      · refine lv_iconst (v := 1) hx hb dX5_acts_24 (by decide) ?_
        refine lv_goto (tgt := 29) hx hb dX5_acts_25 (by decide) ?_
        exact g_zret hC hr rfl dX5_acts_29 (Nat.le_of_ble_eq_true rfl) (Nat.le_of_ble_eq_true rfl) (by
      first
      | (refine bz_1 ?_; unfold fAct; first | exact Or.inl (by assumption) | (refine Or.inr ?_; rw [ej]; show (if μ 0 j ≠ 0 then μ 2 j else -2) = i; rw [if_pos (by assumption)]; first | assumption | exact Classical.not_not.mp (by assumption)))
      | (refine bz_0 ?_; unfold fAct; rw [ej]; show ¬ (i = nI j ∨ (if μ 0 j ≠ 0 then μ 2 j else -2) = i); intro q; grind))
set_option maxHeartbeats 4000000 in
set_option maxRecDepth 100000 in
theorem c_X5_faulty {l : Launch} {E : gV} (hE : gOK l E) {β : Nat → Nat} {μ : F2} {K : Nat → Nat} {th : Int32} (hI : MI μ K) (s0 : Int32) : ∀ (p : Nat) (dp : Int32), p < K 1 → gM l E yX5_faulty cX5_faulty 4 (some .char) ({ frames := p + 1, cells := 0, slots := 0, locals := 23 * (p + 1) } : Room) [.ref (β 19), .int (nI p), .int s0] (fun H => RM E β μ K dp th H) (gQW (mA β) (gWi (fun r H => r = fl (mv μ) (μ 22 0) s0 p ∧ RM E β μ K (nI (dpt (mv μ) (μ 22 0) s0 p)) th H))) (fun _ => False) (mA β) := by
  obtain ⟨hK0, hK1, hK2, hSr, hHo, hTd⟩ := hI
  intro p
  induction p using Nat.strongRecOn with
  | ind p ih =>
  intro dp hp
  refine gM_body hE (by decide +kernel) (Nat.le_of_ble_eq_true rfl) ?_
  intro p_ e_ s m args below meth c hC ht hr hname hP ls hl
  have hx := hC.2.2.1
  have hb := hC.2.2.2.1
  have hl : lv_has ls 4 [(0, .ref (β 19)), (1, .int (nI p)), (2, .int s0)] := hl
  have hS : va_S ((mA β)) s.heap s.heap [] := va_S.rf
  have hR : RM E β μ K dp th s.heap := hP
  refine lv_aload_n hx hb dX5_faulty_0 rfl (lv_at hl 0 rfl) ?_
  refine g_get (v := .ref (β 8)) hC hR.obj (C := RX5) (T := TX5) (N := 26) rfl u5_in 8 (by decide) k_1004 rfl dX5_faulty_1 ?_
  refine lv_iload_n hx hb dX5_faulty_4 rfl (lv_at hl 1 rfl) ?_
  refine g_iald (n := 20) (f := μ 8) (j := p) hC (hR.arr 8 (by decide) rfl rfl) (by omega) (by decide) dX5_faulty_5 ?_
  refine lv_if_lt (tgt := 39) hx hb dX5_faulty_6 (by decide) (fun c1 => ?_) (fun c1 => ?_)
  · have hfl : fl (mv μ) (μ 22 0) s0 p = fOwn (mv μ) (μ 22 0) s0 p := fl_0 c1
    have hdp : dpt (mv μ) (μ 22 0) s0 p = 0 := dpt_0 c1
    refine lv_aload_n hx hb dX5_faulty_39 rfl (lv_at hl 0 rfl) ?_
    refine lv_iconst (v := 0) hx hb dX5_faulty_40 (by decide) ?_
    refine m_putN (μ' := μ) (K' := K) (dp' := 0) (th' := th) 24 (by decide) hC hR hS k_1020 rfl rfl (fun _ _ => rfl) rfl dX5_faulty_41 (fun H lo hR hS => ?_)
    refine lv_aload_n hx hb dX5_faulty_44 rfl (lv_at hl 0 rfl) ?_
    refine g_get (v := .int (μ 22 0)) hC hR.obj (C := RX5) (T := TX5) (N := 26) rfl u5_in 22 (by decide) k_1018 rfl dX5_faulty_45 ?_
    refine lv_aload_n hx hb dX5_faulty_48 rfl (lv_at hl 0 rfl) ?_
    refine g_get (v := .ref (β 6)) hC hR.obj (C := RX5) (T := TX5) (N := 26) rfl u5_in 6 (by decide) k_1002 rfl dX5_faulty_49 ?_
    refine lv_iload_n hx hb dX5_faulty_52 rfl (lv_at hl 1 rfl) ?_
    refine g_iald (n := 20) (f := μ 6) (j := p) hC (hR.arr 6 (by decide) rfl rfl) (by omega) (by decide) dX5_faulty_53 ?_
    refine lv_aload_n hx hb dX5_faulty_54 rfl (lv_at hl 0 rfl) ?_
    refine g_get (v := .ref (β 7)) hC hR.obj (C := RX5) (T := TX5) (N := 26) rfl u5_in 7 (by decide) k_1003 rfl dX5_faulty_55 ?_
    refine lv_iload_n hx hb dX5_faulty_58 rfl (lv_at hl 1 rfl) ?_
    refine g_iald (n := 20) (f := μ 7) (j := p) hC (hR.arr 7 (by decide) rfl rfl) (by omega) (by decide) dX5_faulty_59 ?_
    refine g_cRi (k2 := 0) (n2 := 0) (g_runS (rest := []) hC (c_X5_isIn hE (μ 22 0) (μ 6 p) (μ 7 p)) Y_X5_isIn k_1096 S_X5_isIn trivial rfl hl.1 dX5_faulty_60 ⟨by dsimp only; omega, by dsimp only; omega⟩ ⟨Nat.le_of_ble_eq_true rfl, Nat.le_of_ble_eq_true rfl⟩ rfl (Nat.le_of_ble_eq_true rfl)) rfl rfl g_no (fun r2 h3 => ?_)
    refine lv_if_ne (tgt := 71) hx hb dX5_faulty_63 (by decide) (fun c4 => ?_) (fun c4 => ?_)
    · have q5 := bz.t h3 c4
      refine lv_aload_n hx hb dX5_faulty_71 rfl (lv_at hl 0 rfl) ?_
      refine g_get (v := .ref (β 1)) hC hR.obj (C := RX5) (T := TX5) (N := 26) rfl u5_in 1 (by decide) k_997 rfl dX5_faulty_72 ?_
      refine lv_iload_n hx hb dX5_faulty_75 rfl (lv_at hl 1 rfl) ?_
      refine g_zald (n := 20) (f := μ 1) (j := p) hC (hR.arr 1 (by decide) rfl rfl) (by omega) (by decide) dX5_faulty_76 ?_
      refine lv_if_eq (tgt := 85) hx hb dX5_faulty_77 (by decide) (fun c6 => ?_) (fun c6 => ?_)
      · refine lv_iload_n hx hb dX5_faulty_85 rfl (lv_at hl 2 rfl) ?_
        refine lv_aload_n hx hb dX5_faulty_86 rfl (lv_at hl 0 rfl) ?_
        refine g_get (v := .ref (β 5)) hC hR.obj (C := RX5) (T := TX5) (N := 26) rfl u5_in 5 (by decide) k_1001 rfl dX5_faulty_87 ?_
        refine lv_iload_n hx hb dX5_faulty_90 rfl (lv_at hl 1 rfl) ?_
        refine g_iald (n := 20) (f := μ 5) (j := p) hC (hR.arr 5 (by decide) rfl rfl) (by omega) (by decide) dX5_faulty_91 ?_
        refine lv_icmp_le (tgt := 100) hx hb dX5_faulty_92 (by decide) (fun c7 => ?_) (fun c7 => ?_)
        · refine lv_bipush (v := 45) hx hb dX5_faulty_100 (by decide) ?_
          exact g_zretW hC hr rfl dX5_faulty_102 hS (Nat.le_of_ble_eq_true rfl) (Nat.le_of_ble_eq_true rfl) ⟨by rw [hfl]; unfold fOwn; rw [if_pos (by assumption), if_neg (fun z => z (by assumption)), if_neg (Int32.not_lt.mpr (by assumption))], by rw [hdp]; exact hR⟩
        · refine lv_bipush (v := 108) hx hb dX5_faulty_95 (by decide) ?_
          refine lv_goto (tgt := 102) hx hb dX5_faulty_97 (by decide) ?_
          exact g_zretW hC hr rfl dX5_faulty_102 hS (Nat.le_of_ble_eq_true rfl) (Nat.le_of_ble_eq_true rfl) ⟨by rw [hfl]; unfold fOwn; rw [if_pos (by assumption), if_neg (fun z => z (by assumption)), if_pos (Int32.not_le.mp (by assumption))], by rw [hdp]; exact hR⟩
      · refine lv_bipush (v := 118) hx hb dX5_faulty_80 (by decide) ?_
        refine lv_goto (tgt := 102) hx hb dX5_faulty_82 (by decide) ?_
        exact g_zretW hC hr rfl dX5_faulty_102 hS (Nat.le_of_ble_eq_true rfl) (Nat.le_of_ble_eq_true rfl) ⟨by rw [hfl]; unfold fOwn; rw [if_pos (by assumption), if_pos (by assumption)], by rw [hdp]; exact hR⟩
    · have q5 := bz.f h3 c4
      refine lv_bipush (v := 100) hx hb dX5_faulty_66 (by decide) ?_
      refine lv_goto (tgt := 102) hx hb dX5_faulty_68 (by decide) ?_
      exact g_zretW hC hr rfl dX5_faulty_102 hS (Nat.le_of_ble_eq_true rfl) (Nat.le_of_ble_eq_true rfl) ⟨by rw [hfl]; exact (if_neg (by assumption)).symm, by rw [hdp]; exact hR⟩
  · obtain ⟨q, hq, eq⟩ := (hSr p hp).resolve_left c1
    have eq8 : μ 8 p = nI q := eq
    refine lv_aload_n hx hb dX5_faulty_9 rfl (lv_at hl 0 rfl) ?_
    refine lv_aload_n hx hb dX5_faulty_10 rfl (lv_at hl 0 rfl) ?_
    refine g_get (v := .ref (β 8)) hC hR.obj (C := RX5) (T := TX5) (N := 26) rfl u5_in 8 (by decide) k_1004 rfl dX5_faulty_11 ?_
    refine lv_iload_n hx hb dX5_faulty_14 rfl (lv_at hl 1 rfl) ?_
    refine g_iald (n := 20) (f := μ 8) (j := p) hC (hR.arr 8 (by decide) rfl rfl) (by omega) (by decide) dX5_faulty_15 ?_
    refine lv_iload_n hx hb dX5_faulty_16 rfl (lv_at hl 2 rfl) ?_
    rw [eq8]
    refine g_cWi (k2 := 0) (n2 := 0) (g_runV (rest := []) hC (ih q hq _ (by omega)) Y_X5_faulty k_1159 I_X5_faulty V_X5_faulty hR.obj rfl hR rfl hl.1 dX5_faulty_17 ⟨by dsimp only; omega, by dsimp only; omega⟩ ⟨Nat.le_of_ble_eq_true rfl, Nat.le_of_ble_eq_true rfl⟩ rfl (Nat.le_of_ble_eq_true rfl)) hS (fun _ h => h) rfl rfl (fun r8 H lo h9 _ _ hS => ?_)
    obtain ⟨ef10, hR⟩ := h9
    refine lv_istore_n (lv' := [(3, .int r8), (0, .ref (β 19)), (1, .int (nI p)), (2, .int s0)]) hx hb dX5_faulty_20 rfl hl (by decide) rfl (fun ls hl => ?_)
    refine lv_iload_n hx hb dX5_faulty_21 rfl (lv_at hl 0 rfl) ?_
    refine lv_bipush (v := 45) hx hb dX5_faulty_22 (by decide) ?_
    refine lv_icmp_eq (tgt := 39) hx hb dX5_faulty_24 (by decide) (fun c11 => ?_) (fun c11 => ?_)
    · have hfl : fl (mv μ) (μ 22 0) s0 p = fOwn (mv μ) (μ 22 0) s0 p := by rw [fl_s hSr (by omega) hp hq eq, ← ef10, c11]; rfl
      have hdp : dpt (mv μ) (μ 22 0) s0 p = 0 := by rw [dpt_s hSr (by omega) hp hq eq, ← ef10, c11]; rfl
      refine lv_aload_n hx hb dX5_faulty_39 rfl (lv_at hl 1 rfl) ?_
      refine lv_iconst (v := 0) hx hb dX5_faulty_40 (by decide) ?_
      refine m_putN (μ' := μ) (K' := K) (dp' := 0) (th' := th) 24 (by decide) hC hR hS k_1020 rfl rfl (fun _ _ => rfl) rfl dX5_faulty_41 (fun H lo hR hS => ?_)
      refine lv_aload_n hx hb dX5_faulty_44 rfl (lv_at hl 1 rfl) ?_
      refine g_get (v := .int (μ 22 0)) hC hR.obj (C := RX5) (T := TX5) (N := 26) rfl u5_in 22 (by decide) k_1018 rfl dX5_faulty_45 ?_
      refine lv_aload_n hx hb dX5_faulty_48 rfl (lv_at hl 1 rfl) ?_
      refine g_get (v := .ref (β 6)) hC hR.obj (C := RX5) (T := TX5) (N := 26) rfl u5_in 6 (by decide) k_1002 rfl dX5_faulty_49 ?_
      refine lv_iload_n hx hb dX5_faulty_52 rfl (lv_at hl 2 rfl) ?_
      refine g_iald (n := 20) (f := μ 6) (j := p) hC (hR.arr 6 (by decide) rfl rfl) (by omega) (by decide) dX5_faulty_53 ?_
      refine lv_aload_n hx hb dX5_faulty_54 rfl (lv_at hl 1 rfl) ?_
      refine g_get (v := .ref (β 7)) hC hR.obj (C := RX5) (T := TX5) (N := 26) rfl u5_in 7 (by decide) k_1003 rfl dX5_faulty_55 ?_
      refine lv_iload_n hx hb dX5_faulty_58 rfl (lv_at hl 2 rfl) ?_
      refine g_iald (n := 20) (f := μ 7) (j := p) hC (hR.arr 7 (by decide) rfl rfl) (by omega) (by decide) dX5_faulty_59 ?_
      refine g_cRi (k2 := 0) (n2 := 0) (g_runS (rest := []) hC (c_X5_isIn hE (μ 22 0) (μ 6 p) (μ 7 p)) Y_X5_isIn k_1096 S_X5_isIn trivial rfl hl.1 dX5_faulty_60 ⟨by dsimp only; omega, by dsimp only; omega⟩ ⟨Nat.le_of_ble_eq_true rfl, Nat.le_of_ble_eq_true rfl⟩ rfl (Nat.le_of_ble_eq_true rfl)) rfl rfl g_no (fun r12 h13 => ?_)
      refine lv_if_ne (tgt := 71) hx hb dX5_faulty_63 (by decide) (fun c14 => ?_) (fun c14 => ?_)
      · have q15 := bz.t h13 c14
        refine lv_aload_n hx hb dX5_faulty_71 rfl (lv_at hl 1 rfl) ?_
        refine g_get (v := .ref (β 1)) hC hR.obj (C := RX5) (T := TX5) (N := 26) rfl u5_in 1 (by decide) k_997 rfl dX5_faulty_72 ?_
        refine lv_iload_n hx hb dX5_faulty_75 rfl (lv_at hl 2 rfl) ?_
        refine g_zald (n := 20) (f := μ 1) (j := p) hC (hR.arr 1 (by decide) rfl rfl) (by omega) (by decide) dX5_faulty_76 ?_
        refine lv_if_eq (tgt := 85) hx hb dX5_faulty_77 (by decide) (fun c16 => ?_) (fun c16 => ?_)
        · refine lv_iload_n hx hb dX5_faulty_85 rfl (lv_at hl 3 rfl) ?_
          refine lv_aload_n hx hb dX5_faulty_86 rfl (lv_at hl 1 rfl) ?_
          refine g_get (v := .ref (β 5)) hC hR.obj (C := RX5) (T := TX5) (N := 26) rfl u5_in 5 (by decide) k_1001 rfl dX5_faulty_87 ?_
          refine lv_iload_n hx hb dX5_faulty_90 rfl (lv_at hl 2 rfl) ?_
          refine g_iald (n := 20) (f := μ 5) (j := p) hC (hR.arr 5 (by decide) rfl rfl) (by omega) (by decide) dX5_faulty_91 ?_
          refine lv_icmp_le (tgt := 100) hx hb dX5_faulty_92 (by decide) (fun c17 => ?_) (fun c17 => ?_)
          · refine lv_bipush (v := 45) hx hb dX5_faulty_100 (by decide) ?_
            exact g_zretW hC hr rfl dX5_faulty_102 hS (Nat.le_of_ble_eq_true rfl) (Nat.le_of_ble_eq_true rfl) ⟨by rw [hfl]; unfold fOwn; rw [if_pos (by assumption), if_neg (fun z => z (by assumption)), if_neg (Int32.not_lt.mpr (by assumption))], by rw [hdp]; exact hR⟩
          · refine lv_bipush (v := 108) hx hb dX5_faulty_95 (by decide) ?_
            refine lv_goto (tgt := 102) hx hb dX5_faulty_97 (by decide) ?_
            exact g_zretW hC hr rfl dX5_faulty_102 hS (Nat.le_of_ble_eq_true rfl) (Nat.le_of_ble_eq_true rfl) ⟨by rw [hfl]; unfold fOwn; rw [if_pos (by assumption), if_neg (fun z => z (by assumption)), if_pos (Int32.not_le.mp (by assumption))], by rw [hdp]; exact hR⟩
        · refine lv_bipush (v := 118) hx hb dX5_faulty_80 (by decide) ?_
          refine lv_goto (tgt := 102) hx hb dX5_faulty_82 (by decide) ?_
          exact g_zretW hC hr rfl dX5_faulty_102 hS (Nat.le_of_ble_eq_true rfl) (Nat.le_of_ble_eq_true rfl) ⟨by rw [hfl]; unfold fOwn; rw [if_pos (by assumption), if_pos (by assumption)], by rw [hdp]; exact hR⟩
      · have q15 := bz.f h13 c14
        refine lv_bipush (v := 100) hx hb dX5_faulty_66 (by decide) ?_
        refine lv_goto (tgt := 102) hx hb dX5_faulty_68 (by decide) ?_
        exact g_zretW hC hr rfl dX5_faulty_102 hS (Nat.le_of_ble_eq_true rfl) (Nat.le_of_ble_eq_true rfl) ⟨by rw [hfl]; exact (if_neg (by assumption)).symm, by rw [hdp]; exact hR⟩
    · have hfl : fl (mv μ) (μ 22 0) s0 p = r8 := by rw [fl_s hSr (by omega) hp hq eq, ← ef10, if_pos c11]
      have hdp : dpt (mv μ) (μ 22 0) s0 p = dpt (mv μ) (μ 22 0) s0 q + 1 := by rw [dpt_s hSr (by omega) hp hq eq, ← ef10, if_pos c11]
      have hnar : narrow .char (.int r8) = .int r8 := by rw [ef10]; exact fl_nar _ _ _ _
      refine lv_aload_n hx hb dX5_faulty_27 rfl (lv_at hl 1 rfl) ?_
      refine lv_dup hx hb dX5_faulty_28 rfl ?_
      refine g_get (v := .int (nI (dpt (mv μ) (μ 22 0) s0 q))) hC hR.obj (C := RX5) (T := TX5) (N := 26) rfl u5_in 24 (by decide) k_1020 rfl dX5_faulty_29 ?_
      refine lv_iconst (v := 1) hx hb dX5_faulty_32 (by decide) ?_
      refine g_iadd1 hx hb dX5_faulty_33 ?_
      refine m_putN (μ' := μ) (K' := K) (dp' := (nI ((dpt (mv μ) (μ 22 0) s0 q) + 1))) (th' := th) 24 (by decide) hC hR hS k_1020 rfl rfl (fun _ _ => rfl) rfl dX5_faulty_34 (fun H lo hR hS => ?_)
      refine lv_iload_n hx hb dX5_faulty_37 rfl (lv_at hl 0 rfl) ?_
      exact g_zretW hC hr hnar dX5_faulty_38 hS (Nat.le_of_ble_eq_true rfl) (Nat.le_of_ble_eq_true rfl) ⟨hfl.symm, by rw [hdp]; exact hR⟩
end
